set_option maxHeartbeats 4000000 in
set_option maxRecDepth 100000 in
/-- digest(kind, i) -/
theorem c_X8_digest (l : Launch) (G : mm_G) (M : mm_M) (sz : Nat) (ad : Nat → Nat) (cl ll : Nat) (chg wl sp : Int32) (co lr : Nat → Int32) (sh : Nat → Nat) (rem : Nat → Nat → Int32) (nw : Nat) (wst : Nat → Nat → Nat → Int32) (wfc wfl wtn : Nat → Nat → Int32) (wln : Nat → Nat → Nat) (no : Nat) (op : Nat → OpT) (dc : Nat → Nat) (x y : Int32)  (hxa : xA G M ad cl ll chg wl sp co lr sh rem nw wst wfc wfl wtn wln no op dc) (hI : xI ad nw no) (hN : xN cl ll chg sh nw wfc wfl wtn wln no) (h18 : no = 0 → ad 18 = G.2.2.2.2.1) : mm_i l yX8_digest wsX8_digest ({ frames := 5, cells := 0, slots := 0, locals := 150 } : Room) G ([.ref (ad 0), .int x, .int y] : List Value) M sz (fun r M' => ((¬ ((∃ j, j < 2 ∧ x = nI j) ∧ ∃ j, j < 32 ∧ y = nI j) ∧ r = -1) ∨ (∃ i, i < 32 ∧ x = nI 0 ∧ y = nI i ∧ r = dgb cl co i) ∨ ∃ i, i < 32 ∧ x = nI 1 ∧ y = nI i ∧ r = macb cl co i) ∧ xA G M' ad cl ll chg wl sp co lr sh rem nw wst wfc wfl wtn wln no op dc ∧ xF ad nw no M M') := by
  refine mm_enter (cc := cX8_digest) (maxL := 3) (ret := (some .int)) _ (by decide) rfl (Nat.le_of_ble_eq_true rfl) ?_
  intro p0 e0 s m0 be0 me0 c0 ls S hr hlocks hname hA hC hR hl
  have hx := S.1
  have hb := S.2.1
  have hl : lv_has ls 3 [(0, .ref (ad 0)), (1, .int x), (2, .int y)] := hl
  have inRX2 : ∀ w ∈ wsX20, w ∈ wsX8_digest := by decide +kernel
  have inRX4 : ∀ w ∈ wsX40, w ∈ wsX8_digest := by decide +kernel
  have inRX8 : ∀ w ∈ wsX80, w ∈ wsX8_digest := by decide +kernel
  have hF : mm_fr [] M M := mm_fr.rf
  have hR0 := hR
  obtain ⟨hX, hb1, hb2, ⟨dg, hb3⟩, ⟨lmc, lf, hb4a, hb4b, hb4c⟩, ⟨rf, hb5a, hb5b⟩, hb6, ⟨shf, hb7a, hb7b⟩, hb8, hb9, hb10, hb11, ⟨dnf, hb12a, hb12b⟩, ⟨sfc, sfl, hb13⟩, hb14⟩ := id hxa
  have hZ : mm_fr [] M M := mm_fr.rf
  have hnw := hN.2.2.2.2.1
  have hcl := hN.1
  refine lv_iload_n hx hb dX8_digest_0 rfl (lv_at hl 1 rfl) ?_
  refine lv_if_lt (tgt := 19) hx hb dX8_digest_1 (by decide) (fun c1 => ?_) (fun c1 => ?_)
  · skip
    refine lv_iconst (v := -1) hx hb dX8_digest_19 (by decide) ?_
    have hxa2 := hxa.fr0 hI hZ
    have hxf : xF ad nw no M M := fun q e hq _ => hZ.at hq mm_n0
    exact mm_iret S hr hlocks hR ⟨Or.inl ⟨fun q => by obtain ⟨⟨j, hj, e⟩, _⟩ := q; rw [e] at c1; exact nI_pos (by omega) c1, rfl⟩, hxa2, hxf⟩ dX8_digest_20
  · skip
    refine lv_iload_n hx hb dX8_digest_4 rfl (lv_at hl 1 rfl) ?_
    refine lv_iconst (v := nI 1) hx hb dX8_digest_5 (by decide) ?_
    refine lv_icmp_gt (tgt := 19) hx hb dX8_digest_6 (by decide) (fun c2 => ?_) (fun c2 => ?_)
    · skip
      refine lv_iconst (v := -1) hx hb dX8_digest_19 (by decide) ?_
      have hxa2 := hxa.fr0 hI hZ
      have hxf : xF ad nw no M M := fun q e hq _ => hZ.at hq mm_n0
      exact mm_iret S hr hlocks hR ⟨Or.inl ⟨fun q => by obtain ⟨⟨j, hj, e⟩, _⟩ := q; rw [e] at c2; exact absurd c2 (nI_nlt (show j ≤ 1 by omega) (by omega)), rfl⟩, hxa2, hxf⟩ dX8_digest_20
    · skip
      refine lv_iload_n hx hb dX8_digest_9 rfl (lv_at hl 2 rfl) ?_
      refine lv_if_lt (tgt := 19) hx hb dX8_digest_10 (by decide) (fun c3 => ?_) (fun c3 => ?_)
      · skip
        refine lv_iconst (v := -1) hx hb dX8_digest_19 (by decide) ?_
        have hxa2 := hxa.fr0 hI hZ
        have hxf : xF ad nw no M M := fun q e hq _ => hZ.at hq mm_n0
        exact mm_iret S hr hlocks hR ⟨Or.inl ⟨fun q => by obtain ⟨_, ⟨j, hj, e⟩⟩ := q; rw [e] at c3; exact nI_pos (by omega) c3, rfl⟩, hxa2, hxf⟩ dX8_digest_20
      · skip
        refine lv_iload_n hx hb dX8_digest_13 rfl (lv_at hl 2 rfl) ?_
        refine lv_bipush (v := nI 32) hx hb dX8_digest_14 (by decide) ?_
        refine lv_icmp_lt (tgt := 21) hx hb dX8_digest_16 (by decide) (fun c4 => ?_) (fun c4 => ?_)
        · skip
          obtain ⟨i, hi, ei⟩ := ((pk_ix y (n := 32) (by decide)).resolve_left c3).resolve_left (fun z => absurd c4 (Int32.not_lt.mpr z))
          subst ei
          obtain ⟨k, hk, ek⟩ := ((pk_ix x (n := 2) (by decide)).resolve_left c1).resolve_left (fun z => c2 (Int32.lt_of_lt_of_le (show nI 1 < nI 2 by decide) z))
          subst ek
          refine lv_iload_n hx hb dX8_digest_21 rfl (lv_at hl 1 rfl) ?_
          refine lv_if_ne (tgt := 63) hx hb dX8_digest_22 (by decide) (fun c5 => ?_) (fun c5 => ?_)
          · have c5 : k ≠ 0 := fun z => c5 (congrArg nI z)
            have ek : k = 1 := by omega
            subst ek
            obtain ⟨km0, ⟨mf, mg, ma, mb, km1, km2, km3⟩, mi, km4⟩ := hb2.fr0 hZ
            refine lv_aload_n hx hb dX8_digest_63 rfl (lv_at hl 0 rfl) ?_
            refine mm_get S hC hR (C := RX8) (T := TX8) (N := 14) (ref := "ForkWatch") (v := .ref (ad 4)) 1 hX inRX8 rfl (by decide) (by decide +kernel) (fun _ h9 => h9) rfl dX8_digest_64 ?_
            refine lv_aload_n hx hb dX8_digest_67 rfl (lv_at hl 0 rfl) ?_
            refine mm_get S hC hR (C := RX8) (T := TX8) (N := 14) (ref := "ForkWatch") (v := .ref (ad 14)) 6 hX inRX8 rfl (by decide) (by decide +kernel) (fun _ h9 => h9) rfl dX8_digest_68 ?_
            refine lv_aload_n hx hb dX8_digest_71 rfl (lv_at hl 0 rfl) ?_
            refine mm_get S hC hR (C := RX8) (T := TX8) (N := 14) (ref := "ForkWatch") (v := .int (nI cl)) 7 hX inRX8 rfl (by decide) (by decide +kernel) (fun _ h9 => h9) rfl dX8_digest_72 ?_
            refine lv_aload_n hx hb dX8_digest_75 rfl (lv_at hl 0 rfl) ?_
            refine mm_get S hC hR (C := RX8) (T := TX8) (N := 14) (ref := "ForkWatch") (v := .ref (ad 9)) 2 hX inRX8 rfl (by decide) (by decide +kernel) (fun _ h9 => h9) rfl dX8_digest_76 ?_
            refine lv_iconst (v := nI 0) hx hb dX8_digest_79 (by decide) ?_
            refine mm_callv hA hR (va_runV (As := [.ref (ad 14), .int (nI cl), .ref (ad 9), .int (nI 0)]) (rest := []) S (c_X2_make l G M _ (ad 4) (ad 5) (ad 6) (ad 7) (ad 8) (ad 14) (ad 9) 64 32 cl 0 ma mb mf mg mi co dg km0 km1 km2 km3 km4 hb8 hb3 (by decide) hcl (by decide) (by decide) (xne0 (i := 14) (j := 6) hI (by decide) (by decide) (by decide)) (xne0 (i := 14) (j := 7) hI (by decide) (by decide) (by decide)) (xne0 (i := 14) (j := 8) hI (by decide) (by decide) (by decide)) (xne0 (i := 9) (j := 6) hI (by decide) (by decide) (by decide)) (xne0 (i := 9) (j := 7) hI (by decide) (by decide) (by decide)) (xne0 (i := 9) (j := 8) hI (by decide) (by decide) (by decide))) (cwV 4 S.2.2.2.2 gX8_digest_X2_make rfl rfl rfl (by decide +kernel) ⟨Nat.le_of_ble_eq_true rfl, Nat.le_of_ble_eq_true rfl⟩) (mm_preV hC hA hR _ km0 rfl) rfl rfl hl.1 rfl (lv_room (Nat.le_of_ble_eq_true rfl)) dX8_digest_80 ⟨Nat.le_of_ble_eq_true rfl, Nat.le_of_ble_eq_true rfl⟩) (fun M2 H locs hp hR => ?_)
            obtain ⟨e1, ej, ff⟩ := hp
            have hF : mm_fr [(ad 5), (ad 6), (ad 7), (ad 8), (ad 9)] M M := hZ.up (fun q h => absurd h List.not_mem_nil)
            have hX := ff.at hX (mm_nc (xne0 hI (by decide) (by decide) (by decide)) (mm_nc (xne0 hI (by decide) (by decide) (by decide)) (mm_nc (xne0 hI (by decide) (by decide) (by decide)) (mm_nc (xne0 hI (by decide) (by decide) (by decide)) (mm_nc (xne0 hI (by decide) (by decide) (by decide)) mm_n0)))))
            have hb3 : M2 (ad 9) = some (ia G 32 (va_cpy (macb cl co) dg 0 0 32)) := e1
            have hF := hF.tr ff (mm_ic 0 rfl (mm_ic 1 rfl (mm_ic 2 rfl (mm_ic 3 rfl (mm_ic 4 rfl mm_i0)))))
            refine lv_aload_n hx hb dX8_digest_83 rfl (lv_at hl 0 rfl) ?_
            refine mm_get S hC hR (C := RX8) (T := TX8) (N := 14) (ref := "ForkWatch") (v := .ref (ad 9)) 2 hX inRX8 rfl (by decide) (by decide +kernel) (fun _ h9 => h9) rfl dX8_digest_84 ?_
            refine lv_iload_n hx hb dX8_digest_87 rfl (lv_at hl 2 rfl) ?_
            refine mm_iald S hC hR hb3 (j := i) (by omega) (by omega) dX8_digest_88 ?_
            refine mm_eqi (show va_cpy (macb cl co) dg 0 0 32 i = macb cl co i from by have z := cpy_at (d := macb cl co) (r := dg) (a := 0) hi; rw [Nat.zero_add] at z; exact z) ?_
            have hrs : ∀ z, z ∈ [5, 6, 7, 8, 9] → xD nw no z := by
              intro z hz
              simp only [List.mem_cons, List.not_mem_nil, or_false] at hz
              unfold xD
              omega
            have fr := xA.fr (rs := [5, 6, 7, 8, 9]) hxa hI hF hrs
            obtain ⟨u0, u1, u2, u3, u4, u5, u6, u7, u8, u9, u10, u11, u12, u13, u14⟩ := fr
            have hxa2 : xA G M2 ad cl ll chg wl sp co lr sh rem nw wst wfc wfl wtn wln no op dc := ⟨u0 (by simp only [List.mem_cons, List.not_mem_nil, or_false]; omega), u1 (by simp only [List.mem_cons, List.not_mem_nil, or_false]; omega) (by simp only [List.mem_cons, List.not_mem_nil, or_false]; omega) (by simp only [List.mem_cons, List.not_mem_nil, or_false]; omega), ej, ⟨_, hb3⟩, u4 (by simp only [List.mem_cons, List.not_mem_nil, or_false]; omega) (by simp only [List.mem_cons, List.not_mem_nil, or_false]; omega), u5 (by simp only [List.mem_cons, List.not_mem_nil, or_false]; omega), fun k hk => u6 k hk (by simp only [List.mem_cons, List.not_mem_nil, or_false]; omega) (by simp only [List.mem_cons, List.not_mem_nil, or_false]; omega), u7 (by simp only [List.mem_cons, List.not_mem_nil, or_false]; omega), u8 (by simp only [List.mem_cons, List.not_mem_nil, or_false]; omega), u9 (by simp only [List.mem_cons, List.not_mem_nil, or_false]; omega), u10 (by simp only [List.mem_cons, List.not_mem_nil, or_false]; omega), u11 (by simp only [List.mem_cons, List.not_mem_nil, or_false]; omega) (by simp only [List.mem_cons, List.not_mem_nil, or_false]; omega) (by intro z hz; simp only [List.mem_cons, List.not_mem_nil, or_false] at hz; omega) (xn18 hC hR0 hxa hI h18 (by intro z hz; simp only [List.mem_cons, List.not_mem_nil, or_false] at hz; omega) hrs), u12 (by simp only [List.mem_cons, List.not_mem_nil, or_false]; omega), u13 (by simp only [List.mem_cons, List.not_mem_nil, or_false]; omega) (by simp only [List.mem_cons, List.not_mem_nil, or_false]; omega) (by simp only [List.mem_cons, List.not_mem_nil, or_false]; omega), fun j2 hj2 => u14 j2 hj2 (by intro z hz; simp only [List.mem_cons, List.not_mem_nil, or_false] at hz; omega)⟩
            have hxf : xF ad nw no M M2 := xF.of (rs := [5, 6, 7, 8, 9]) hF hrs
            exact mm_iret S hr hlocks hR ⟨Or.inr (Or.inr ⟨i, hi, rfl, rfl, rfl⟩), hxa2, hxf⟩ dX8_digest_89
          · have c5 : k = 0 := (nI_eq (a := k) (b := 0) (by omega) (by omega)).mp c5
            subst c5
            obtain ⟨sf_, sg_, sa_, sb_, s1, s2, s3⟩ := id hb1
            have s1 := hZ.at s1 mm_n0
            have s2 := hZ.at s2 mm_n0
            have s3 := hZ.at s3 mm_n0
            refine lv_aload_n hx hb dX8_digest_25 rfl (lv_at hl 0 rfl) ?_
            refine mm_get S hC hR (C := RX8) (T := TX8) (N := 14) (ref := "ForkWatch") (v := .ref (ad 1)) 0 hX inRX8 rfl (by decide) (by decide +kernel) (fun _ h9 => h9) rfl dX8_digest_26 ?_
            refine mm_callv hA hR (va_runV (As := []) (rest := []) S (c_X4_start l G M _ (ad 1) (ad 2) (ad 3) _ _ _ _ s1 s2 s3) (cwV 0 S.2.2.2.2 gX8_digest_X4_start rfl rfl rfl (by decide +kernel) ⟨Nat.le_of_ble_eq_true rfl, Nat.le_of_ble_eq_true rfl⟩) (mm_preV hC hA hR _ s1 rfl) rfl rfl hl.1 rfl (lv_room (Nat.le_of_ble_eq_true rfl)) dX8_digest_29 ⟨Nat.le_of_ble_eq_true rfl, Nat.le_of_ble_eq_true rfl⟩) (fun M4 H locs hp hR => ?_)
            obtain ⟨q0, eq0⟩ : ∃ z : ShS, z = (va_cpy k_begin sf_ 0 0 8, sg_, 0) := ⟨_, rfl⟩
            have i0 : shI (padm cl co) 0 q0 := by rw [eq0]; exact shI_0
            rw [← eq0] at hp
            obtain ⟨⟨a1, a2, a3, l0⟩, ff⟩ := hp
            have hF : mm_fr [(ad 1), (ad 2), (ad 3), (ad 9)] M M := hZ.up (fun q h => absurd h List.not_mem_nil)
            have hX := ff.at hX (mm_nc (xne0 hI (by decide) (by decide) (by decide)) (mm_nc (xne0 hI (by decide) (by decide) (by decide)) (mm_nc (xne0 hI (by decide) (by decide) (by decide)) mm_n0)))
            have hb8 := ff.at hb8 (mm_nc (xne0 hI (by decide) (by decide) (by decide)) (mm_nc (xne0 hI (by decide) (by decide) (by decide)) (mm_nc (xne0 hI (by decide) (by decide) (by decide)) mm_n0)))
            have hb3 := ff.at hb3 (mm_nc (xne0 hI (by decide) (by decide) (by decide)) (mm_nc (xne0 hI (by decide) (by decide) (by decide)) (mm_nc (xne0 hI (by decide) (by decide) (by decide)) mm_n0)))
            have s1 : M4 (ad 1) = some (ob 5 [.ref (ad 2), .ref (ad 3), .int (nI q0.2.2), .int (nI 0)]) := a1
            have s2 : M4 (ad 2) = some (ia G 8 q0.1) := a2
            have s3 : M4 (ad 3) = some (ia G 64 q0.2.1) := a3
            have hF := hF.tr ff (mm_ic 0 rfl (mm_ic 1 rfl (mm_ic 2 rfl mm_i0)))
            refine lv_aload_n hx hb dX8_digest_32 rfl (lv_at hl 0 rfl) ?_
            refine mm_get S hC hR (C := RX8) (T := TX8) (N := 14) (ref := "ForkWatch") (v := .ref (ad 1)) 0 hX inRX8 rfl (by decide) (by decide +kernel) (fun _ h9 => h9) rfl dX8_digest_33 ?_
            refine lv_aload_n hx hb dX8_digest_36 rfl (lv_at hl 0 rfl) ?_
            refine mm_get S hC hR (C := RX8) (T := TX8) (N := 14) (ref := "ForkWatch") (v := .ref (ad 14)) 6 hX inRX8 rfl (by decide) (by decide +kernel) (fun _ h9 => h9) rfl dX8_digest_37 ?_
            refine lv_iconst (v := nI 0) hx hb dX8_digest_40 (by decide) ?_
            refine lv_aload_n hx hb dX8_digest_41 rfl (lv_at hl 0 rfl) ?_
            refine mm_get S hC hR (C := RX8) (T := TX8) (N := 14) (ref := "ForkWatch") (v := .int (nI cl)) 7 hX inRX8 rfl (by decide) (by decide +kernel) (fun _ h9 => h9) rfl dX8_digest_42 ?_
            refine mm_callv hA hR (va_runV (As := [.ref (ad 14), .int (nI 0), .int (nI cl)]) (rest := []) S (c_X4_takeRow l G M4 _ (ad 1) (ad 2) (ad 3) (ad 14) 64 q0 0 0 cl co s1 s2 s3 hb8 l0 (by omega) (by decide) (xne0 (i := 14) (j := 2) hI (by decide) (by decide) (by decide)) (xne0 (i := 14) (j := 3) hI (by decide) (by decide) (by decide))) (cwV 3 S.2.2.2.2 gX8_digest_X4_takeRow rfl rfl rfl (by decide +kernel) ⟨Nat.le_of_ble_eq_true rfl, Nat.le_of_ble_eq_true rfl⟩) (mm_preV hC hA hR _ s1 rfl) rfl rfl hl.1 rfl (lv_room (Nat.le_of_ble_eq_true rfl)) dX8_digest_45 ⟨Nat.le_of_ble_eq_true rfl, Nat.le_of_ble_eq_true rfl⟩) (fun M6 H locs hp hR => ?_)
            have i1 := shI_n (r := fun j => co (0 + j)) i0 cl (fun j hj => by rw [padm_lt (by omega)])
            rw [Nat.zero_add] at i1
            obtain ⟨q1, eq1⟩ : ∃ z : ShS, z = sh_takes q0 (fun j => co (0 + j)) cl := ⟨_, rfl⟩
            rw [← eq1] at hp i1
            rw [Nat.zero_add] at hp
            obtain ⟨⟨a1, a2, a3, l1⟩, ff⟩ := hp
            have hX := ff.at hX (mm_nc (xne0 hI (by decide) (by decide) (by decide)) (mm_nc (xne0 hI (by decide) (by decide) (by decide)) (mm_nc (xne0 hI (by decide) (by decide) (by decide)) mm_n0)))
            have hb8 := ff.at hb8 (mm_nc (xne0 hI (by decide) (by decide) (by decide)) (mm_nc (xne0 hI (by decide) (by decide) (by decide)) (mm_nc (xne0 hI (by decide) (by decide) (by decide)) mm_n0)))
            have hb3 := ff.at hb3 (mm_nc (xne0 hI (by decide) (by decide) (by decide)) (mm_nc (xne0 hI (by decide) (by decide) (by decide)) (mm_nc (xne0 hI (by decide) (by decide) (by decide)) mm_n0)))
            have s1 : M6 (ad 1) = some (ob 5 [.ref (ad 2), .ref (ad 3), .int (nI q1.2.2), .int (nI cl)]) := a1
            have s2 : M6 (ad 2) = some (ia G 8 q1.1) := a2
            have s3 : M6 (ad 3) = some (ia G 64 q1.2.1) := a3
            have hF := hF.tr ff (mm_ic 0 rfl (mm_ic 1 rfl (mm_ic 2 rfl mm_i0)))
            refine lv_aload_n hx hb dX8_digest_48 rfl (lv_at hl 0 rfl) ?_
            refine mm_get S hC hR (C := RX8) (T := TX8) (N := 14) (ref := "ForkWatch") (v := .ref (ad 1)) 0 hX inRX8 rfl (by decide) (by decide +kernel) (fun _ h9 => h9) rfl dX8_digest_49 ?_
            refine lv_aload_n hx hb dX8_digest_52 rfl (lv_at hl 0 rfl) ?_
            refine mm_get S hC hR (C := RX8) (T := TX8) (N := 14) (ref := "ForkWatch") (v := .ref (ad 9)) 2 hX inRX8 rfl (by decide) (by decide +kernel) (fun _ h9 => h9) rfl dX8_digest_53 ?_
            refine lv_iconst (v := nI 0) hx hb dX8_digest_56 (by decide) ?_
            refine mm_callv hA hR (va_runV (As := [.ref (ad 9), .int (nI 0)]) (rest := []) S (c_X4_finish l G M6 _ (ad 1) (ad 2) (ad 3) (ad 9) 32 q1 cl 0 dg s1 s2 s3 hb3 l1 (by decide) (by decide) (xne0 (i := 9) (j := 2) hI (by decide) (by decide) (by decide)) (xne0 (i := 9) (j := 3) hI (by decide) (by decide) (by decide))) (cwV 2 S.2.2.2.2 gX8_digest_X4_finish rfl rfl rfl (by decide +kernel) ⟨Nat.le_of_ble_eq_true rfl, Nat.le_of_ble_eq_true rfl⟩) (mm_preV hC hA hR _ s1 rfl) rfl rfl hl.1 rfl (lv_room (Nat.le_of_ble_eq_true rfl)) dX8_digest_57 ⟨Nat.le_of_ble_eq_true rfl, Nat.le_of_ble_eq_true rfl⟩) (fun M8 H locs hp hR => ?_)
            obtain ⟨e1, ej, ff⟩ := hp
            rw [dg_I i1] at e1
            have hX := ff.at hX (mm_nc (xne0 hI (by decide) (by decide) (by decide)) (mm_nc (xne0 hI (by decide) (by decide) (by decide)) (mm_nc (xne0 hI (by decide) (by decide) (by decide)) (mm_nc (xne0 hI (by decide) (by decide) (by decide)) mm_n0))))
            have hb3 : M8 (ad 9) = some (ia G 32 (va_cpy (dgb cl co) dg 0 0 32)) := e1
            have hF := hF.tr ff (mm_ic 0 rfl (mm_ic 1 rfl (mm_ic 2 rfl (mm_ic 3 rfl mm_i0))))
            refine lv_goto (tgt := 83) hx hb dX8_digest_60 (by decide) ?_
            refine lv_aload_n hx hb dX8_digest_83 rfl (lv_at hl 0 rfl) ?_
            refine mm_get S hC hR (C := RX8) (T := TX8) (N := 14) (ref := "ForkWatch") (v := .ref (ad 9)) 2 hX inRX8 rfl (by decide) (by decide +kernel) (fun _ h9 => h9) rfl dX8_digest_84 ?_
            refine lv_iload_n hx hb dX8_digest_87 rfl (lv_at hl 2 rfl) ?_
            refine mm_iald S hC hR hb3 (j := i) (by omega) (by omega) dX8_digest_88 ?_
            refine mm_eqi (show va_cpy (dgb cl co) dg 0 0 32 i = dgb cl co i from by have z := cpy_at (d := dgb cl co) (r := dg) (a := 0) hi; rw [Nat.zero_add] at z; exact z) ?_
            have hrs : ∀ z, z ∈ [1, 2, 3, 9] → xD nw no z := by
              intro z hz
              simp only [List.mem_cons, List.not_mem_nil, or_false] at hz
              unfold xD
              omega
            have fr := xA.fr (rs := [1, 2, 3, 9]) hxa hI hF hrs
            obtain ⟨u0, u1, u2, u3, u4, u5, u6, u7, u8, u9, u10, u11, u12, u13, u14⟩ := fr
            have hxa2 : xA G M8 ad cl ll chg wl sp co lr sh rem nw wst wfc wfl wtn wln no op dc := ⟨u0 (by simp only [List.mem_cons, List.not_mem_nil, or_false]; omega), ej, u2 (by simp only [List.mem_cons, List.not_mem_nil, or_false]; omega) (by simp only [List.mem_cons, List.not_mem_nil, or_false]; omega) (by simp only [List.mem_cons, List.not_mem_nil, or_false]; omega) (by simp only [List.mem_cons, List.not_mem_nil, or_false]; omega) (by simp only [List.mem_cons, List.not_mem_nil, or_false]; omega), ⟨_, hb3⟩, u4 (by simp only [List.mem_cons, List.not_mem_nil, or_false]; omega) (by simp only [List.mem_cons, List.not_mem_nil, or_false]; omega), u5 (by simp only [List.mem_cons, List.not_mem_nil, or_false]; omega), fun k hk => u6 k hk (by simp only [List.mem_cons, List.not_mem_nil, or_false]; omega) (by simp only [List.mem_cons, List.not_mem_nil, or_false]; omega), u7 (by simp only [List.mem_cons, List.not_mem_nil, or_false]; omega), u8 (by simp only [List.mem_cons, List.not_mem_nil, or_false]; omega), u9 (by simp only [List.mem_cons, List.not_mem_nil, or_false]; omega), u10 (by simp only [List.mem_cons, List.not_mem_nil, or_false]; omega), u11 (by simp only [List.mem_cons, List.not_mem_nil, or_false]; omega) (by simp only [List.mem_cons, List.not_mem_nil, or_false]; omega) (by intro z hz; simp only [List.mem_cons, List.not_mem_nil, or_false] at hz; omega) (xn18 hC hR0 hxa hI h18 (by intro z hz; simp only [List.mem_cons, List.not_mem_nil, or_false] at hz; omega) hrs), u12 (by simp only [List.mem_cons, List.not_mem_nil, or_false]; omega), u13 (by simp only [List.mem_cons, List.not_mem_nil, or_false]; omega) (by simp only [List.mem_cons, List.not_mem_nil, or_false]; omega) (by simp only [List.mem_cons, List.not_mem_nil, or_false]; omega), fun j2 hj2 => u14 j2 hj2 (by intro z hz; simp only [List.mem_cons, List.not_mem_nil, or_false] at hz; omega)⟩
            have hxf : xF ad nw no M M8 := xF.of (rs := [1, 2, 3, 9]) hF hrs
            exact mm_iret S hr hlocks hR ⟨Or.inr (Or.inl ⟨i, hi, rfl, rfl, rfl⟩), hxa2, hxf⟩ dX8_digest_89
        · skip
          refine lv_iconst (v := -1) hx hb dX8_digest_19 (by decide) ?_
          have hxa2 := hxa.fr0 hI hZ
          have hxf : xF ad nw no M M := fun q e hq _ => hZ.at hq mm_n0
          exact mm_iret S hr hlocks hR ⟨Or.inl ⟨fun q => by obtain ⟨_, ⟨j, hj, e⟩⟩ := q; rw [e] at c4; exact c4 (nI_lt hj (by omega)), rfl⟩, hxa2, hxf⟩ dX8_digest_20

set_option maxHeartbeats 4000000 in
set_option maxRecDepth 100000 in
/-- spoil(world, file, i, mask) -/
theorem c_X8_spoil (l : Launch) (G : mm_G) (M : mm_M) (sz : Nat) (ad : Nat → Nat) (cl ll : Nat) (chg wl sp : Int32) (co lr : Nat → Int32) (sh : Nat → Nat) (rem : Nat → Nat → Int32) (nw : Nat) (wst : Nat → Nat → Nat → Int32) (wfc wfl wtn : Nat → Nat → Int32) (wln : Nat → Nat → Nat) (no : Nat) (op : Nat → OpT) (dc : Nat → Nat) (x y z v : Int32)  (hxa : xA G M ad cl ll chg wl sp co lr sh rem nw wst wfc wfl wtn wln no op dc) (hI : xI ad nw no) (hN : xN cl ll chg sh nw wfc wfl wtn wln no) (h18 : no = 0 → ad 18 = G.2.2.2.2.1) : mm_i l yX8_spoil wsX8_spoil ({ frames := 6, cells := 0, slots := 0, locals := 200 } : Room) G ([.ref (ad 0), .int x, .int y, .int z, .int v] : List Value) M sz (fun r M' => (r = 0 ∧ ¬ (∃ j fi i k, j < nw ∧ fi < 16 ∧ i < wln j fi ∧ 1 ≤ k ∧ k < 256 ∧ x = nI j ∧ y = nI fi ∧ z = nI i ∧ v = nI k) ∧ xA G M' ad cl ll chg wl sp co lr sh rem nw wst wfc wfl wtn wln no op dc ∧ xF ad nw no M M') ∨ ∃ j fi i k tn', j < nw ∧ fi < 16 ∧ i < wln j fi ∧ 1 ≤ k ∧ k < 256 ∧ x = nI j ∧ y = nI fi ∧ z = nI i ∧ v = nI k ∧ r = 1 ∧ tOK (upd (wfc j) (fi * 12 + i) (wfc j (fi * 12 + i) ^^^ nI k)) (wfl j) tn' (wln j) ∧ xA G M' ad cl ll (nI 1) wl sp co lr sh rem nw wst (updS wfc j (upd (wfc j) (fi * 12 + i) (wfc j (fi * 12 + i) ^^^ nI k))) wfl (updS wtn j tn') wln no op dc ∧ xF ad nw no M M') := by
  refine mm_enter (cc := cX8_spoil) (maxL := 6) (ret := (some .boolean)) _ (by decide) rfl (Nat.le_of_ble_eq_true rfl) ?_
  intro p0 e0 s m0 be0 me0 c0 ls S hr hlocks hname hA hC hR hl
  have hx := S.1
  have hb := S.2.1
  have hl : lv_has ls 6 [(0, .ref (ad 0)), (1, .int x), (2, .int y), (3, .int z), (4, .int v)] := hl
  have inRJx4a65c : ∀ w ∈ wsJx4a65c0, w ∈ wsX8_spoil := by decide +kernel
  have inRX0 : ∀ w ∈ wsX00, w ∈ wsX8_spoil := by decide +kernel
  have inRX4 : ∀ w ∈ wsX40, w ∈ wsX8_spoil := by decide +kernel
  have inRX6 : ∀ w ∈ wsX60, w ∈ wsX8_spoil := by decide +kernel
  have inRX7 : ∀ w ∈ wsX70, w ∈ wsX8_spoil := by decide +kernel
  have inRX8 : ∀ w ∈ wsX80, w ∈ wsX8_spoil := by decide +kernel
  have hF : mm_fr [] M M := mm_fr.rf
  have hR0 := hR
  obtain ⟨hX, hb1, hb2, ⟨dg, hb3⟩, ⟨lmc, lf, hb4a, hb4b, hb4c⟩, ⟨rf, hb5a, hb5b⟩, hb6, ⟨shf, hb7a, hb7b⟩, hb8, hb9, hb10, hb11, ⟨dnf, hb12a, hb12b⟩, ⟨sfc, sfl, hb13⟩, hb14⟩ := id hxa
  have hZ : mm_fr [] M M := mm_fr.rf
  have hnw := hN.2.2.2.2.1
  refine lv_aload_n hx hb dX8_spoil_0 rfl (lv_at hl 0 rfl) ?_
  refine lv_iload_n hx hb dX8_spoil_1 rfl (lv_at hl 1 rfl) ?_
  refine mm_calli hA hR (va_runV (As := [.int x]) (rest := []) S (c_X8_isWorld l G M _ ad cl ll chg wl sp co lr sh rem nw wst wfc wfl wtn wln no op dc x (hxa.fr0 hI hZ) hI hN h18) (cwV 1 S.2.2.2.2 gX8_spoil_X8_isWorld rfl rfl rfl (by decide +kernel) ⟨Nat.le_of_ble_eq_true rfl, Nat.le_of_ble_eq_true rfl⟩) (mm_preV hC hA hR _ hX rfl) rfl rfl hl.1 rfl (lv_room (Nat.le_of_ble_eq_true rfl)) dX8_spoil_2 ⟨Nat.le_of_ble_eq_true rfl, Nat.le_of_ble_eq_true rfl⟩) (fun r9 M10 H locs hp hR => ?_)
  obtain ⟨qg, ff⟩ := hp
  have hX := ff.at hX mm_n0
  have hb4a := ff.at hb4a mm_n0
  have hb4b := ff.at hb4b mm_n0
  have hb5a := ff.at hb5a mm_n0
  have hb7a := ff.at hb7a mm_n0
  have hb8 := ff.at hb8 mm_n0
  have hb9 := ff.at hb9 mm_n0
  have hb10 := ff.at hb10 mm_n0
  have hb3 := ff.at hb3 mm_n0
  have hF := hF.tr ff mm_i0
  have hZ := hZ.tr ff mm_i0
  rcases qg with ⟨e1, qg⟩ | ⟨e1, n_x⟩ <;> subst e1
  · skip
    obtain ⟨j, hj, e1⟩ := qg
    subst e1
    refine lv_if_eq (tgt := 23) hx hb dX8_spoil_5 (by decide) (fun z => by first | exact absurd z (by decide) | exact absurd (by decide) z) (fun _ => ?_)
    refine lv_iload_n hx hb dX8_spoil_8 rfl (lv_at hl 2 rfl) ?_
    refine mm_calli hA hR (va_runS (As := [.int y]) (rest := []) S (c_X8_isFile l G M10 _ y) (va_cwS 1 S.2.2.2.2 gX8_spoil_X8_isFile rfl rfl rfl (by decide +kernel) ⟨Nat.le_of_ble_eq_true rfl, Nat.le_of_ble_eq_true rfl⟩) (mm_preS hC hA hR _) rfl rfl hl.1 rfl (lv_room (Nat.le_of_ble_eq_true rfl)) dX8_spoil_9 ⟨Nat.le_of_ble_eq_true rfl, Nat.le_of_ble_eq_true rfl⟩) (fun r11 M12 H locs hp hR => ?_)
    obtain ⟨qg, ff⟩ := hp
    have hX := ff.at hX mm_n0
    have hb4a := ff.at hb4a mm_n0
    have hb4b := ff.at hb4b mm_n0
    have hb5a := ff.at hb5a mm_n0
    have hb7a := ff.at hb7a mm_n0
    have hb8 := ff.at hb8 mm_n0
    have hb9 := ff.at hb9 mm_n0
    have hb10 := ff.at hb10 mm_n0
    have hb3 := ff.at hb3 mm_n0
    have hF := hF.tr ff mm_i0
    have hZ := hZ.tr ff mm_i0
    rcases qg with ⟨e1, qg⟩ | ⟨e1, n_y⟩ <;> subst e1
    · skip
      obtain ⟨fi, hfi, e1⟩ := qg
      subst e1
      refine lv_if_eq (tgt := 23) hx hb dX8_spoil_12 (by decide) (fun z => by first | exact absurd z (by decide) | exact absurd (by decide) z) (fun _ => ?_)
      refine lv_iload hx hb dX8_spoil_15 (lv_at hl 4 rfl) ?_
      refine mm_calli hA hR (va_runS (As := [.int v]) (rest := []) S (c_X8_isMask l G M12 _ v) (va_cwS 1 S.2.2.2.2 gX8_spoil_X8_isMask rfl rfl rfl (by decide +kernel) ⟨Nat.le_of_ble_eq_true rfl, Nat.le_of_ble_eq_true rfl⟩) (mm_preS hC hA hR _) rfl rfl hl.1 rfl (lv_room (Nat.le_of_ble_eq_true rfl)) dX8_spoil_17 ⟨Nat.le_of_ble_eq_true rfl, Nat.le_of_ble_eq_true rfl⟩) (fun r13 M14 H locs hp hR => ?_)
      obtain ⟨qg, ff⟩ := hp
      have hX := ff.at hX mm_n0
      have hb4a := ff.at hb4a mm_n0
      have hb4b := ff.at hb4b mm_n0
      have hb5a := ff.at hb5a mm_n0
      have hb7a := ff.at hb7a mm_n0
      have hb8 := ff.at hb8 mm_n0
      have hb9 := ff.at hb9 mm_n0
      have hb10 := ff.at hb10 mm_n0
      have hb3 := ff.at hb3 mm_n0
      have hF := hF.tr ff mm_i0
      have hZ := hZ.tr ff mm_i0
      rcases qg with ⟨e1, qg⟩ | ⟨e1, n_v⟩ <;> subst e1
      · skip
        obtain ⟨jm, hm1, hm2, e1⟩ := qg
        subst e1
        refine lv_if_ne (tgt := 25) hx hb dX8_spoil_20 (by decide) (fun _ => ?_) (fun z => by first | exact absurd z (by decide) | exact absurd (by decide) z)
        refine lv_aload_n hx hb dX8_spoil_25 rfl (lv_at hl 0 rfl) ?_
        refine mm_get S hC hR (C := RX8) (T := TX8) (N := 14) (ref := "ForkWatch") (v := .ref (ad 10)) 3 hX inRX8 rfl (by decide) (by decide +kernel) (fun _ h9 => h9) rfl dX8_spoil_26 ?_
        refine lv_iload_n hx hb dX8_spoil_29 rfl (lv_at hl 1 rfl) ?_
        have htk := hN.2.2.2.2.2.2.1 j hj
        have hlf := (htk.1 fi hfi).2
        refine mm_callq hA hR (va_runV (As := [.int (nI j)]) (rest := []) S (c_Jx4a65c_get_915e3 l G M14 _ (ad 10) (ad 11) nw 10 j lmc lf hb4a hb4b hj (by omega) (by decide)) (cwV 1 S.2.2.2.2 gX8_spoil_Jx4a65c_get_915e3 rfl rfl rfl (by decide +kernel) ⟨Nat.le_of_ble_eq_true rfl, Nat.le_of_ble_eq_true rfl⟩) (mm_preV hC hA hR _ hb4a rfl) rfl rfl hl.1 rfl (lv_room (Nat.le_of_ble_eq_true rfl)) dX8_spoil_30 ⟨Nat.le_of_ble_eq_true rfl, Nat.le_of_ble_eq_true rfl⟩) (fun r15 M16 H locs hp hR => ?_)
        obtain ⟨e1, ff⟩ := hp
        rw [hb4c j hj] at e1
        subst e1
        have hX := ff.at hX mm_n0
        have hb4a := ff.at hb4a mm_n0
        have hb4b := ff.at hb4b mm_n0
        have hb5a := ff.at hb5a mm_n0
        have hb7a := ff.at hb7a mm_n0
        have hb8 := ff.at hb8 mm_n0
        have hb9 := ff.at hb9 mm_n0
        have hb10 := ff.at hb10 mm_n0
        have hb3 := ff.at hb3 mm_n0
        have hF := hF.tr ff mm_i0
        have hZ := hZ.tr ff mm_i0
        have hwo := (hb14 j hj).fr0 hZ
        obtain ⟨hw0, ⟨tf, hw1, htf⟩, hst, hw2, hw3, hw4, hw5, hw6⟩ := id hwo
        refine mm_cast (r := (RX7, TX7, 3)) S hC hR hw0 rfl (by decide +kernel) dX8_spoil_33 ?_
        refine lv_astore (lv' := [(5, .ref (xW ad j 0)), (0, .ref (ad 0)), (1, .int (nI j)), (2, .int (nI fi)), (3, .int z), (4, .int (nI jm))]) hx hb dX8_spoil_36 hl (by decide) rfl (fun ls hl => ?_)
        refine lv_iload_n hx hb dX8_spoil_38 rfl (lv_at hl 4 rfl) ?_
        refine lv_if_lt (tgt := 56) hx hb dX8_spoil_39 (by decide) (fun c1 => ?_) (fun c1 => ?_)
        · skip
          refine lv_iconst (v := nI 0) hx hb dX8_spoil_56 (by decide) ?_
          have hxa2 := hxa.fr0 hI hZ
          have hxf : xF ad nw no M M16 := fun q e hq _ => hZ.at hq mm_n0
          exact mm_zret S hr hlocks (by decide) hR (Or.inl ⟨rfl, fun ⟨j2, f2, i2, k2, h1, h2, h3, h4, h5, e1, e2, e3, e4⟩ => by rw [e3] at c1; exact nI_pos (by have := (( hN.2.2.2.2.2.2.1 j2 h1).1 f2 h2).2; omega) c1, hxa2, hxf⟩) dX8_spoil_57
        · skip
          refine lv_iload_n hx hb dX8_spoil_42 rfl (lv_at hl 4 rfl) ?_
          refine lv_aload hx hb dX8_spoil_43 (lv_at hl 0 rfl) ?_
          refine mm_get S hC hR (C := RX7) (T := TX7) (N := 3) (ref := "ForkWatch$World") (v := .ref (xW ad j 2)) 1 hw0 inRX7 rfl (by decide) (by decide +kernel) (fun _ h9 => h9) rfl dX8_spoil_45 ?_
          refine mm_get S hC hR (C := RX0) (T := TX0) (N := 2) (ref := "ForkWatch$Files") (v := .ref (xW ad j 4)) 1 hw2 inRX0 rfl (by decide) (by decide +kernel) (fun _ h9 => h9) rfl dX8_spoil_48 ?_
          refine lv_iload_n hx hb dX8_spoil_51 rfl (lv_at hl 3 rfl) ?_
          refine mm_iald S hC hR hw4 (j := fi) (by omega) (by omega) dX8_spoil_52 ?_
          refine mm_eqi (htk.1 fi hfi).1 ?_
          refine lv_icmp_lt (tgt := 58) hx hb dX8_spoil_53 (by decide) (fun c2 => ?_) (fun c2 => ?_)
          · skip
            obtain ⟨i, hi, ei⟩ := ((pk_ix z (n := wln j fi) (by omega)).resolve_left c1).resolve_left (fun q => absurd c2 (Int32.not_lt.mpr q))
            subst ei
            obtain ⟨sf_, sg_, sa_, sb_, s1, s2, s3⟩ := id hb1
            have s1 := hZ.at s1 mm_n0
            have s2 := hZ.at s2 mm_n0
            have s3 := hZ.at s3 mm_n0
            refine lv_aload hx hb dX8_spoil_58 (lv_at hl 0 rfl) ?_
            refine lv_iload_n hx hb dX8_spoil_60 rfl (lv_at hl 3 rfl) ?_
            refine lv_iload_n hx hb dX8_spoil_61 rfl (lv_at hl 4 rfl) ?_
            refine lv_iload hx hb dX8_spoil_62 (lv_at hl 5 rfl) ?_
            refine lv_aload_n hx hb dX8_spoil_64 rfl (lv_at hl 1 rfl) ?_
            refine mm_get S hC hR (C := RX8) (T := TX8) (N := 14) (ref := "ForkWatch") (v := .ref (ad 1)) 0 hX inRX8 rfl (by decide) (by decide +kernel) (fun _ h9 => h9) rfl dX8_spoil_65 ?_
            have hsp : ∀ i, i < 15 → xW ad j i ≠ ad 1 ∧ xW ad j i ≠ ad 2 ∧ xW ad j i ≠ ad 3 := fun i hi => ⟨xne hI (by unfold xD; omega) (by unfold xD; omega) (by omega), xne hI (by unfold xD; omega) (by unfold xD; omega) (by omega), xne hI (by unfold xD; omega) (by unfold xD; omega) (by omega)⟩
            refine mm_callv hA hR (va_runV (As := [.int (nI fi), .int (nI i), .int (nI jm), .ref (ad 1)]) (rest := []) S (c_X7_flip l G M16 _ (xW ad j) (wst j) (wfc j) (wfl j) (wtn j) (ad 1) (ad 2) (ad 3) sa_ sb_ sf_ sg_ fi i (nI jm) (wln j) s1 s2 s3 hwo (xW_I hI hj) hsp htk hfi (by omega)) (cwV 4 S.2.2.2.2 gX8_spoil_X7_flip rfl rfl rfl (by decide +kernel) ⟨Nat.le_of_ble_eq_true rfl, Nat.le_of_ble_eq_true rfl⟩) (mm_preV hC hA hR _ hw0 rfl) rfl rfl hl.1 rfl (lv_room (Nat.le_of_ble_eq_true rfl)) dX8_spoil_68 ⟨Nat.le_of_ble_eq_true rfl, Nat.le_of_ble_eq_true rfl⟩) (fun M18 H locs hp hR => ?_)
            obtain ⟨tn', hwo2, htk2, ej, ff⟩ := hp
            have hF : mm_fr [(ad 1), (ad 2), (ad 3), (xW ad j 3), (xW ad j 4), (xW ad j 6), (ad 0)] M M16 := hZ.up (fun q h => absurd h List.not_mem_nil)
            have hX0n : ad 0 ∉ [ad 1, ad 2, ad 3, xW ad j 3, xW ad j 4, xW ad j 6] := mm_n6 (xne0 (i := 0) (j := 1) hI (by decide) (by decide) (by decide)) (xne0 (i := 0) (j := 2) hI (by decide) (by decide) (by decide)) (xne0 (i := 0) (j := 3) hI (by decide) (by decide) (by decide)) (xne hI (by unfold xD; omega) (by unfold xD; omega) (by omega)) (xne hI (by unfold xD; omega) (by unfold xD; omega) (by omega)) (xne hI (by unfold xD; omega) (by unfold xD; omega) (by omega))
            have hX := ff.at hX hX0n
            have hF := hF.tr ff (mm_ic 0 rfl (mm_ic 1 rfl (mm_ic 2 rfl (mm_ic 3 rfl (mm_ic 4 rfl (mm_ic 5 rfl mm_i0))))))
            refine lv_aload_n hx hb dX8_spoil_71 rfl (lv_at hl 1 rfl) ?_
            refine lv_iconst (v := nI 1) hx hb dX8_spoil_72 (by decide) ?_
            refine mm_put S hC hR (C := RX8) (T := TX8) (N := 14) (ref := "ForkWatch") 11 hX inRX8 rfl tyX8_ok nmX8 (by decide) (by decide +kernel) (fun _ h9 => h9) rfl rfl rfl (Nat.le_of_ble_eq_true rfl) dX8_spoil_73 (fun H locs M19 g21 f20 hR => ?_)
            have hX : M19 (ad 0) = some (ob 9 [.ref (ad 1), .ref (ad 4), .ref (ad 9), .ref (ad 10), .ref (ad 12), .ref (ad 13), .ref (ad 14), .int (nI cl), .ref (ad 15), .int (nI ll), .ref (ad 16), .int (nI 1), .int wl, .int sp]) := g21
            have hF := hF.tr f20 (mm_ic 6 rfl mm_i0)
            have hwo3 := hwo2.out f20 (fun i2 h2 => mm_nc (xne hI (by unfold xD; omega) (by unfold xD; omega) (by omega)) mm_n0)
            obtain ⟨q1, q2, q3, q4, p1, p2, p3⟩ := ej
            have ej2 : shJ G M19 (ad 1) (ad 2) (ad 3) := ⟨q1, q2, q3, q4, f20.at p1 (mm_nc (xne0 (i := 1) (j := 0) hI (by decide) (by decide) (by decide)) mm_n0), f20.at p2 (mm_nc (xne0 (i := 2) (j := 0) hI (by decide) (by decide) (by decide)) mm_n0), f20.at p3 (mm_nc (xne0 (i := 3) (j := 0) hI (by decide) (by decide) (by decide)) mm_n0)⟩
            refine lv_iconst (v := nI 1) hx hb dX8_spoil_76 (by decide) ?_
            have hrs : ∀ z, z ∈ [1, 2, 3, 100 + 15 * j + 3, 100 + 15 * j + 4, 100 + 15 * j + 6, 0] → xD nw no z := by
              intro z hz
              simp only [List.mem_cons, List.not_mem_nil, or_false] at hz
              unfold xD
              omega
            have fr := xA.fr (rs := [1, 2, 3, 100 + 15 * j + 3, 100 + 15 * j + 4, 100 + 15 * j + 6, 0]) hxa hI hF hrs
            obtain ⟨u0, u1, u2, u3, u4, u5, u6, u7, u8, u9, u10, u11, u12, u13, u14⟩ := fr
            have hxa2 : xA G M19 ad cl ll (nI 1) wl sp co lr sh rem nw wst (updS wfc j (upd (wfc j) (fi * 12 + i) (wfc j (fi * 12 + i) ^^^ nI jm))) wfl (updS wtn j tn') wln no op dc := ⟨hX, ej2, u2 (by simp only [List.mem_cons, List.not_mem_nil, or_false]; omega) (by simp only [List.mem_cons, List.not_mem_nil, or_false]; omega) (by simp only [List.mem_cons, List.not_mem_nil, or_false]; omega) (by simp only [List.mem_cons, List.not_mem_nil, or_false]; omega) (by simp only [List.mem_cons, List.not_mem_nil, or_false]; omega), u3 (by simp only [List.mem_cons, List.not_mem_nil, or_false]; omega), u4 (by simp only [List.mem_cons, List.not_mem_nil, or_false]; omega) (by simp only [List.mem_cons, List.not_mem_nil, or_false]; omega), u5 (by simp only [List.mem_cons, List.not_mem_nil, or_false]; omega), fun k hk => u6 k hk (by simp only [List.mem_cons, List.not_mem_nil, or_false]; omega) (by simp only [List.mem_cons, List.not_mem_nil, or_false]; omega), u7 (by simp only [List.mem_cons, List.not_mem_nil, or_false]; omega), u8 (by simp only [List.mem_cons, List.not_mem_nil, or_false]; omega), u9 (by simp only [List.mem_cons, List.not_mem_nil, or_false]; omega), u10 (by simp only [List.mem_cons, List.not_mem_nil, or_false]; omega), u11 (by simp only [List.mem_cons, List.not_mem_nil, or_false]; omega) (by simp only [List.mem_cons, List.not_mem_nil, or_false]; omega) (by intro z hz; simp only [List.mem_cons, List.not_mem_nil, or_false] at hz; omega) (xn18 hC hR0 hxa hI h18 (by intro z hz; simp only [List.mem_cons, List.not_mem_nil, or_false] at hz; omega) hrs), u12 (by simp only [List.mem_cons, List.not_mem_nil, or_false]; omega), u13 (by simp only [List.mem_cons, List.not_mem_nil, or_false]; omega) (by simp only [List.mem_cons, List.not_mem_nil, or_false]; omega) (by simp only [List.mem_cons, List.not_mem_nil, or_false]; omega), fun j2 hj2 => by by_cases e : j2 = j; (subst e; rw [updS_s, updS_s]; exact hwo3); (rw [updS_n e, updS_n e]; exact u14 j2 hj2 (by intro z hz; simp only [List.mem_cons, List.not_mem_nil, or_false] at hz; omega))⟩
            have hxf : xF ad nw no M M19 := xF.of (rs := [1, 2, 3, 100 + 15 * j + 3, 100 + 15 * j + 4, 100 + 15 * j + 6, 0]) hF hrs
            exact mm_zret S hr hlocks (by decide) hR (Or.inr ⟨j, fi, i, jm, tn', hj, hfi, hi, hm1, hm2, rfl, rfl, rfl, rfl, rfl, htk2, hxa2, hxf⟩) dX8_spoil_77
          · skip
            refine lv_iconst (v := nI 0) hx hb dX8_spoil_56 (by decide) ?_
            have hxa2 := hxa.fr0 hI hZ
            have hxf : xF ad nw no M M16 := fun q e hq _ => hZ.at hq mm_n0
            exact mm_zret S hr hlocks (by decide) hR (Or.inl ⟨rfl, fun ⟨j2, f2, i2, k2, h1, h2, h3, h4, h5, e1, e2, e3, e4⟩ => by have d1 : j = j2 := (nI_eq (by omega) (by omega)).mp e1; have d2 : fi = f2 := (nI_eq (by omega) (by omega)).mp e2; subst d1; subst d2; rw [e3] at c2; exact c2 (nI_lt h3 (by omega)), hxa2, hxf⟩) dX8_spoil_57
      · skip
        refine lv_if_ne (tgt := 25) hx hb dX8_spoil_20 (by decide) (fun z => by first | exact absurd z (by decide) | exact absurd (by decide) z) (fun _ => ?_)
        refine lv_iconst (v := nI 0) hx hb dX8_spoil_23 (by decide) ?_
        have hxa2 := hxa.fr0 hI hZ
        have hxf : xF ad nw no M M14 := fun q e hq _ => hZ.at hq mm_n0
        exact mm_zret S hr hlocks (by decide) hR (Or.inl ⟨rfl, fun ⟨j2, f2, i2, k2, h1, h2, h3, h4, h5, e1, e2, e3, e4⟩ => by exact n_v ⟨k2, h4, h5, e4⟩, hxa2, hxf⟩) dX8_spoil_24
    · skip
      refine lv_if_eq (tgt := 23) hx hb dX8_spoil_12 (by decide) (fun _ => ?_) (fun z => by first | exact absurd z (by decide) | exact absurd (by decide) z)
      refine lv_iconst (v := nI 0) hx hb dX8_spoil_23 (by decide) ?_
      have hxa2 := hxa.fr0 hI hZ
      have hxf : xF ad nw no M M12 := fun q e hq _ => hZ.at hq mm_n0
      exact mm_zret S hr hlocks (by decide) hR (Or.inl ⟨rfl, fun ⟨j2, f2, i2, k2, h1, h2, h3, h4, h5, e1, e2, e3, e4⟩ => by exact n_y ⟨f2, h2, e2⟩, hxa2, hxf⟩) dX8_spoil_24
  · skip
    refine lv_if_eq (tgt := 23) hx hb dX8_spoil_5 (by decide) (fun _ => ?_) (fun z => by first | exact absurd z (by decide) | exact absurd (by decide) z)
    refine lv_iconst (v := nI 0) hx hb dX8_spoil_23 (by decide) ?_
    have hxa2 := hxa.fr0 hI hZ
    have hxf : xF ad nw no M M10 := fun q e hq _ => hZ.at hq mm_n0
    exact mm_zret S hr hlocks (by decide) hR (Or.inl ⟨rfl, fun ⟨j2, f2, i2, k2, h1, h2, h3, h4, h5, e1, e2, e3, e4⟩ => by exact n_x ⟨j2, h1, e1⟩, hxa2, hxf⟩) dX8_spoil_24
