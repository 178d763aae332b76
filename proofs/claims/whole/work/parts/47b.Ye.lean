theorem pl_ne {j c j' c' i i' : Nat} (hi : i < 84) (hi' : i' < 84) (hc : c < 4) (hc' : c' < 4) (h : 84 * (4 * j + c) + i = 84 * (4 * j' + c') + i') : j = j' ∧ c = c' ∧ i = i' := by omega
theorem uW_s {w : Nat → Nat → Nat → Int32} {j c : Nat} {g : Nat → Int32} : updW w j c g j c = g := by unfold updW updS; rw [if_pos rfl, if_pos rfl]
theorem uW_n {w : Nat → Nat → Nat → Int32} {j c j' c' : Nat} {g : Nat → Int32} (h : j' ≠ j ∨ c' ≠ c) : updW w j c g j' c' = w j' c' := by
  unfold updW updS
  by_cases e : j' = j
  · rw [if_pos e]
    show (if c' = c then g else w j c') = _
    rw [if_neg (by omega), e]
  · rw [if_neg e]
theorem uS_s {w : Nat → Nat → Int32} {j : Nat} {g : Nat → Int32} : updS w j g j = g := if_pos rfl
theorem uS_n {w : Nat → Nat → Int32} {j k : Nat} {g : Nat → Int32} (h : k ≠ j) : updS w j g k = w k := if_neg h

set_option maxHeartbeats 4000000 in
set_option maxRecDepth 100000 in
/-- poke(world, client, i, mask) -/
theorem c_X9_poke (l : Launch) (G : mm_G) (M : mm_M) (sz : Nat) (md : Nat → Nat) (cl ll : Nat) (wl sp : Int32) (co lr : Nat → Int32) (sh : Nat → Nat) (rem : Nat → Nat → Int32) (nw : Nat) (wst : Nat → Nat → Nat → Int32) (wfc : Nat → Nat → Int32) (wln : Nat → Nat → Nat) (x y z v : Int32)  (hya : yA G M md cl ll wl sp co lr sh rem nw wst wfc wln) (hJ : yI md) (hN : yN cl ll co sh rem nw wst wfc wln) : mm_i l yX9_poke wsX9_poke ({ frames := 1, cells := 0, slots := 0, locals := 40 } : Room) G ([.ref (md 0), .int x, .int y, .int z, .int v] : List Value) M sz (fun r M' => (r = 0 ∧ ¬ ((∃ j, j < nw ∧ x = nI j) ∧ (∃ j, j < 4 ∧ y = nI j) ∧ (∃ j, j < 84 ∧ z = nI j) ∧ ∃ j, 1 ≤ j ∧ j < 256 ∧ v = nI j) ∧ yA G M' md cl ll wl sp co lr sh rem nw wst wfc wln ∧ mm_fr [md 0, md 3, md 4, md 5, md 6, md 7, md 8, md 9, md 10, md 11, md 12, md 13, md 14, md 15, md 16] M M') ∨ ∃ j c i k, j < nw ∧ c < 4 ∧ i < 84 ∧ 1 ≤ k ∧ k < 256 ∧ x = nI j ∧ y = nI c ∧ z = nI i ∧ v = nI k ∧ r = 1 ∧ yA G M' md cl ll wl sp co lr sh rem nw (updW wst j c (upd (wst j c) i (wst j c i ^^^ nI k))) wfc wln ∧ mm_fr [md 0, md 3, md 4, md 5, md 6, md 7, md 8, md 9, md 10, md 11, md 12, md 13, md 14, md 15, md 16] M M') := by
  refine mm_enter (cc := cX9_poke) (maxL := 5) (ret := (some .boolean)) _ (by decide) rfl (Nat.le_of_ble_eq_true rfl) ?_
  intro p0 e0 s m0 be0 me0 c0 ls S hr hlocks hname hA hC hR hl
  have hx := S.1
  have hb := S.2.1
  have hl : lv_has ls 5 [(0, .ref (md 0)), (1, .int x), (2, .int y), (3, .int z), (4, .int v)] := hl
  have inRX9 : ∀ w ∈ wsX90, w ∈ wsX9_poke := by decide +kernel
  have hF : mm_fr [md 0, md 3, md 4, md 5, md 6, md 7, md 8, md 9, md 10, md 11, md 12, md 13, md 14, md 15, md 16] M M := mm_fr.rf
  obtain ⟨hN1, hN2, hN3, hN4, hN5, hN6, hN7, hN8, hN9, hN10⟩ := hN
  have hya0 := hya
  obtain ⟨⟨v22, f, d, hS⟩, ⟨ss, h3, hs⟩, ⟨rr0, h4, hrm⟩, ⟨fs, h5, hfs⟩, ⟨fl, h6, hfl⟩, ⟨s7, h7, hsh⟩, ⟨cof, h8, hco⟩, ⟨lrf, h9, hlr⟩, ⟨tt, h15⟩, ⟨p, h16⟩⟩ := hya
  have h0 : M (md 0) = some (ob 10 [.ref (md 1), .ref (md 2), .ref (md 3), .ref (md 4), .ref (md 5), .ref (md 6), .int (nI nw), .ref (md 7), .ref (md 8), .int (nI cl), .ref (md 9), .int (nI ll), .int wl, .int sp, .ref (md 10), .int (nI 0), .ref (md 11), .ref (md 12), .ref (md 13), .ref (md 14), .ref (md 15), .ref (md 16), .int v22]) := hS.1
  have h10 : M (md 10) = some (ia G 256 f) := hS.2.1
  have h11 : M (md 11) = some (ia G 32 d) := hS.2.2.1
  refine lv_iload_n hx hb dX9_poke_0 rfl (lv_at hl 1 rfl) ?_
  refine lv_aload_n hx hb dX9_poke_1 rfl (lv_at hl 0 rfl) ?_
  refine mm_get S hC hR (C := RX9) (T := TX9) (N := 23) (ref := "ForkWatchModel") (v := .int (nI nw)) 6 h0 inRX9 rfl (by decide) (by decide +kernel) (fun _ h9 => h9) rfl dX9_poke_2 ?_
  refine mm_calli hA hR (va_runS (As := [.int x, .int (nI nw)]) (rest := []) S (c_X9_isIn l G M _ x nw (by omega)) (va_cwS 2 S.2.2.2.2 gX9_poke_X9_isIn rfl rfl rfl (by decide +kernel) ⟨Nat.le_of_ble_eq_true rfl, Nat.le_of_ble_eq_true rfl⟩) (mm_preS hC hA hR _) rfl rfl hl.1 rfl (lv_room (Nat.le_of_ble_eq_true rfl)) dX9_poke_5 ⟨Nat.le_of_ble_eq_true rfl, Nat.le_of_ble_eq_true rfl⟩) (fun r36 M37 H locs hp hR => ?_)
  obtain ⟨er, eM⟩ := hp
  subst eM
  rcases er with ⟨er, qg⟩ | ⟨er, n_x⟩ <;> subst er
  · skip
    obtain ⟨j, hj, e1⟩ := qg
    subst e1
    refine lv_if_eq (tgt := 42) hx hb dX9_poke_8 (by decide) (fun z => by first | exact absurd z (by decide) | exact absurd (by decide) z) (fun _ => ?_)
    refine lv_iload_n hx hb dX9_poke_11 rfl (lv_at hl 2 rfl) ?_
    refine lv_iconst (v := nI 4) hx hb dX9_poke_12 (by decide) ?_
    refine mm_calli hA hR (va_runS (As := [.int y, .int (nI 4)]) (rest := []) S (c_X9_isIn l G M _ y 4 (by omega)) (va_cwS 2 S.2.2.2.2 gX9_poke_X9_isIn rfl rfl rfl (by decide +kernel) ⟨Nat.le_of_ble_eq_true rfl, Nat.le_of_ble_eq_true rfl⟩) (mm_preS hC hA hR _) rfl rfl hl.1 rfl (lv_room (Nat.le_of_ble_eq_true rfl)) dX9_poke_13 ⟨Nat.le_of_ble_eq_true rfl, Nat.le_of_ble_eq_true rfl⟩) (fun r38 M39 H locs hp hR => ?_)
    obtain ⟨er, eM⟩ := hp
    subst eM
    rcases er with ⟨er, qg⟩ | ⟨er, n_y⟩ <;> subst er
    · skip
      obtain ⟨c, hc, e1⟩ := qg
      subst e1
      refine lv_if_eq (tgt := 42) hx hb dX9_poke_16 (by decide) (fun z => by first | exact absurd z (by decide) | exact absurd (by decide) z) (fun _ => ?_)
      refine lv_iload_n hx hb dX9_poke_19 rfl (lv_at hl 3 rfl) ?_
      refine lv_bipush (v := nI 84) hx hb dX9_poke_20 (by decide) ?_
      refine mm_calli hA hR (va_runS (As := [.int z, .int (nI 84)]) (rest := []) S (c_X9_isIn l G M _ z 84 (by omega)) (va_cwS 2 S.2.2.2.2 gX9_poke_X9_isIn rfl rfl rfl (by decide +kernel) ⟨Nat.le_of_ble_eq_true rfl, Nat.le_of_ble_eq_true rfl⟩) (mm_preS hC hA hR _) rfl rfl hl.1 rfl (lv_room (Nat.le_of_ble_eq_true rfl)) dX9_poke_22 ⟨Nat.le_of_ble_eq_true rfl, Nat.le_of_ble_eq_true rfl⟩) (fun r40 M41 H locs hp hR => ?_)
      obtain ⟨er, eM⟩ := hp
      subst eM
      rcases er with ⟨er, qg⟩ | ⟨er, n_z⟩ <;> subst er
      · skip
        obtain ⟨i, hi, e1⟩ := qg
        subst e1
        refine lv_if_eq (tgt := 42) hx hb dX9_poke_25 (by decide) (fun z => by first | exact absurd z (by decide) | exact absurd (by decide) z) (fun _ => ?_)
        refine lv_iload hx hb dX9_poke_28 (lv_at hl 4 rfl) ?_
        refine lv_iconst (v := nI 1) hx hb dX9_poke_30 (by decide) ?_
        refine lv_icmp_lt (tgt := 42) hx hb dX9_poke_31 (by decide) (fun cm1 => ?_) (fun cm1 => ?_)
        · skip
          refine lv_iconst (v := nI 0) hx hb dX9_poke_42 (by decide) ?_
          exact mm_zret S hr hlocks (by decide) hR (Or.inl ⟨rfl, fun q => (show ¬ (∃ j, 1 ≤ j ∧ j < 256 ∧ v = nI j) from fun ⟨j, h1, h2, e⟩ => by rw [e] at cm1; exact absurd cm1 (nI_nlt h1 (by omega))) q.2.2.2, hya0, hF⟩) dX9_poke_43
        · skip
          refine lv_iload hx hb dX9_poke_34 (lv_at hl 4 rfl) ?_
          refine lv_sipush (v := nI 255) hx hb dX9_poke_36 (by decide) ?_
          refine lv_icmp_le (tgt := 44) hx hb dX9_poke_39 (by decide) (fun cm2 => ?_) (fun cm2 => ?_)
          · skip
            have hx1 : ¬ v < 0 := fun z => cm1 (Int32.lt_trans z (by decide))
            have hx2 : ¬ nI 256 ≤ v := fun z => absurd (Int32.le_trans z cm2) (by decide)
            obtain ⟨jm, hm2, ej⟩ := ((pk_ix v (n := 256) (by decide)).resolve_left hx1).resolve_left hx2
            have hm1 : 1 ≤ jm := Classical.byContradiction (fun z => cm1 (by rw [ej]; exact nI_lt (by omega) (by decide)))
            subst ej
            refine lv_aload_n hx hb dX9_poke_44 rfl (lv_at hl 0 rfl) ?_
            refine mm_get S hC hR (C := RX9) (T := TX9) (N := 23) (ref := "ForkWatchModel") (v := .ref (md 3)) 2 h0 inRX9 rfl (by decide) (by decide +kernel) (fun _ h9 => h9) rfl dX9_poke_45 ?_
            refine lv_iload_n hx hb dX9_poke_48 rfl (lv_at hl 1 rfl) ?_
            refine lv_iload_n hx hb dX9_poke_49 rfl (lv_at hl 2 rfl) ?_
            refine mm_calli hA hR (va_runS (As := [.int (nI j), .int (nI c)]) (rest := [.ref (md 3)]) S (c_X9_placeOf l G M _ j c) (va_cwS 2 S.2.2.2.2 gX9_poke_X9_placeOf rfl rfl rfl (by decide +kernel) ⟨Nat.le_of_ble_eq_true rfl, Nat.le_of_ble_eq_true rfl⟩) (mm_preS hC hA hR _) rfl rfl hl.1 rfl (lv_room (Nat.le_of_ble_eq_true rfl)) dX9_poke_50 ⟨Nat.le_of_ble_eq_true rfl, Nat.le_of_ble_eq_true rfl⟩) (fun r42 M43 H locs hp hR => ?_)
            obtain ⟨er, eM⟩ := hp
            subst eM
            subst er
            refine lv_iload_n hx hb dX9_poke_53 rfl (lv_at hl 3 rfl) ?_
            refine lv_iadd hx hb dX9_poke_54 ?_
            refine mm_eqi (nI_add _ _) ?_
            refine lv_dup2_11 hx hb dX9_poke_55 rfl rfl ?_
            refine mm_iald S hC hR h3 (j := (84 * (4 * j + c) + i)) (by omega) (by omega) dX9_poke_56 ?_
            refine lv_iload hx hb dX9_poke_57 (lv_at hl 4 rfl) ?_
            refine lv_ixor hx hb dX9_poke_59 ?_
            refine mm_iast S hC hR h3 (j := (84 * (4 * j + c) + i)) (by omega) (by omega) dX9_poke_60 (fun H locs M44 g46 f45 hR => ?_)
            have h4 := f45.at h4 (mm_nc (yne hJ (by decide) (by decide) (by decide)) mm_n0)
            have h5 := f45.at h5 (mm_nc (yne hJ (by decide) (by decide) (by decide)) mm_n0)
            have h6 := f45.at h6 (mm_nc (yne hJ (by decide) (by decide) (by decide)) mm_n0)
            have h7 := f45.at h7 (mm_nc (yne hJ (by decide) (by decide) (by decide)) mm_n0)
            have h8 := f45.at h8 (mm_nc (yne hJ (by decide) (by decide) (by decide)) mm_n0)
            have h9 := f45.at h9 (mm_nc (yne hJ (by decide) (by decide) (by decide)) mm_n0)
            have h15 := f45.at h15 (mm_nc (yne hJ (by decide) (by decide) (by decide)) mm_n0)
            have h16 := f45.at h16 (mm_nc (yne hJ (by decide) (by decide) (by decide)) mm_n0)
            have h0 := f45.at h0 (mm_nc (yne hJ (by decide) (by decide) (by decide)) mm_n0)
            have h10 := f45.at h10 (mm_nc (yne hJ (by decide) (by decide) (by decide)) mm_n0)
            have h11 := f45.at h11 (mm_nc (yne hJ (by decide) (by decide) (by decide)) mm_n0)
            have h3 : M44 (md 3) = some (ia G 2016 (upd ss (84 * (4 * j + c) + i) ((ss (84 * (4 * j + c) + i)) ^^^ (nI jm)))) := g46
            have hF := hF.tr f45 (mm_ic 1 rfl mm_i0)
            have hS := hS.out f45 (mm_nc (yne hJ (by decide) (by decide) (by decide)) mm_n0) (mm_nc (yne hJ (by decide) (by decide) (by decide)) mm_n0) (mm_nc (yne hJ (by decide) (by decide) (by decide)) mm_n0) (mm_nc (yne hJ (by decide) (by decide) (by decide)) mm_n0) (mm_nc (yne hJ (by decide) (by decide) (by decide)) mm_n0) (mm_nc (yne hJ (by decide) (by decide) (by decide)) mm_n0) (mm_nc (yne hJ (by decide) (by decide) (by decide)) mm_n0) (mm_nc (yne hJ (by decide) (by decide) (by decide)) mm_n0)
            refine lv_iconst (v := nI 1) hx hb dX9_poke_61 (by decide) ?_
            have hz : ∀ j', j' < nw → ∀ c', c' < 4 → ∀ i', i' < 84 → upd ss (84 * (4 * j + c) + i) (ss (84 * (4 * j + c) + i) ^^^ nI jm) (84 * (4 * j' + c') + i') = updW wst j c (upd (wst j c) i (wst j c i ^^^ nI jm)) j' c' i' := fun j' hj' c' hc' i' hi' => by
              by_cases e : j' = j ∧ c' = c
              · obtain ⟨e1, e2⟩ := e
                subst e1 e2
                rw [uW_s, ← hs j' hj' c' hc' i hi]
                unfold upd
                by_cases e3 : i' = i
                · rw [if_pos e3, e3, if_pos rfl]
                · rw [if_neg (by omega), if_neg e3, hs j' hj' c' hc' i' hi']
              · rw [uW_n (by omega), ← hs j' hj' c' hc' i' hi']
                unfold upd
                rw [if_neg (fun z => e (by have := pl_ne hi' hi hc' hc z; omega))]
            exact mm_zret S hr hlocks (by decide) hR (Or.inr ⟨j, c, i, jm, hj, hc, hi, hm1, hm2, rfl, rfl, rfl, rfl, rfl, ⟨⟨_, _, _, hS⟩, ⟨_, h3, hz⟩, ⟨_, h4, hrm⟩, ⟨_, h5, hfs⟩, ⟨_, h6, hfl⟩, ⟨_, h7, hsh⟩, ⟨_, h8, hco⟩, ⟨_, h9, hlr⟩, ⟨_, h15⟩, ⟨_, h16⟩⟩, hF⟩) dX9_poke_62
          · skip
            refine lv_iconst (v := nI 0) hx hb dX9_poke_42 (by decide) ?_
            exact mm_zret S hr hlocks (by decide) hR (Or.inl ⟨rfl, fun q => (fun ⟨j, h1, h2, e⟩ => by rw [e] at cm2; exact cm2 ((nI_leI (by omega) (by decide)).mpr (by omega))) q.2.2.2, hya0, hF⟩) dX9_poke_43
      · skip
        refine lv_if_eq (tgt := 42) hx hb dX9_poke_25 (by decide) (fun _ => ?_) (fun z => by first | exact absurd z (by decide) | exact absurd (by decide) z)
        refine lv_iconst (v := nI 0) hx hb dX9_poke_42 (by decide) ?_
        exact mm_zret S hr hlocks (by decide) hR (Or.inl ⟨rfl, fun q => n_z q.2.2.1, hya0, hF⟩) dX9_poke_43
    · skip
      refine lv_if_eq (tgt := 42) hx hb dX9_poke_16 (by decide) (fun _ => ?_) (fun z => by first | exact absurd z (by decide) | exact absurd (by decide) z)
      refine lv_iconst (v := nI 0) hx hb dX9_poke_42 (by decide) ?_
      exact mm_zret S hr hlocks (by decide) hR (Or.inl ⟨rfl, fun q => n_y q.2.1, hya0, hF⟩) dX9_poke_43
  · skip
    refine lv_if_eq (tgt := 42) hx hb dX9_poke_8 (by decide) (fun _ => ?_) (fun z => by first | exact absurd z (by decide) | exact absurd (by decide) z)
    refine lv_iconst (v := nI 0) hx hb dX9_poke_42 (by decide) ?_
    exact mm_zret S hr hlocks (by decide) hR (Or.inl ⟨rfl, fun q => n_x q.1, hya0, hF⟩) dX9_poke_43

set_option maxHeartbeats 4000000 in
set_option maxRecDepth 100000 in
/-- graft(world, client, from) -/
theorem c_X9_graft (l : Launch) (G : mm_G) (M : mm_M) (sz : Nat) (md : Nat → Nat) (cl ll : Nat) (wl sp : Int32) (co lr : Nat → Int32) (sh : Nat → Nat) (rem : Nat → Nat → Int32) (nw : Nat) (wst : Nat → Nat → Nat → Int32) (wfc : Nat → Nat → Int32) (wln : Nat → Nat → Nat) (x y z : Int32)  (hya : yA G M md cl ll wl sp co lr sh rem nw wst wfc wln) (hJ : yI md) (hN : yN cl ll co sh rem nw wst wfc wln) : mm_i l yX9_graft wsX9_graft ({ frames := 1, cells := 0, slots := 0, locals := 40 } : Room) G ([.ref (md 0), .int x, .int y, .int z] : List Value) M sz (fun r M' => (r = 0 ∧ ¬ ((∃ j, j < nw ∧ x = nI j) ∧ (∃ j, j < 4 ∧ y = nI j) ∧ (∃ j, j < nw ∧ z = nI j)) ∧ yA G M' md cl ll wl sp co lr sh rem nw wst wfc wln ∧ mm_fr [md 0, md 3, md 4, md 5, md 6, md 7, md 8, md 9, md 10, md 11, md 12, md 13, md 14, md 15, md 16] M M') ∨ ∃ j c k, j < nw ∧ c < 4 ∧ k < nw ∧ x = nI j ∧ y = nI c ∧ z = nI k ∧ r = 1 ∧ yA G M' md cl ll wl sp co lr sh rem nw (updW wst j c (va_cpy (wst k c) (wst j c) 0 0 84)) wfc wln ∧ mm_fr [md 0, md 3, md 4, md 5, md 6, md 7, md 8, md 9, md 10, md 11, md 12, md 13, md 14, md 15, md 16] M M') := by
  refine mm_enter (cc := cX9_graft) (maxL := 5) (ret := (some .boolean)) _ (by decide) rfl (Nat.le_of_ble_eq_true rfl) ?_
  intro p0 e0 s m0 be0 me0 c0 ls S hr hlocks hname hA hC hR hl
  have hx := S.1
  have hb := S.2.1
  have hl : lv_has ls 5 [(0, .ref (md 0)), (1, .int x), (2, .int y), (3, .int z)] := hl
  have inRX9 : ∀ w ∈ wsX90, w ∈ wsX9_graft := by decide +kernel
  have hF : mm_fr [md 0, md 3, md 4, md 5, md 6, md 7, md 8, md 9, md 10, md 11, md 12, md 13, md 14, md 15, md 16] M M := mm_fr.rf
  obtain ⟨hN1, hN2, hN3, hN4, hN5, hN6, hN7, hN8, hN9, hN10⟩ := hN
  have hya0 := hya
  obtain ⟨⟨v22, f, d, hS⟩, ⟨ss, h3, hs⟩, ⟨rr0, h4, hrm⟩, ⟨fs, h5, hfs⟩, ⟨fl, h6, hfl⟩, ⟨s7, h7, hsh⟩, ⟨cof, h8, hco⟩, ⟨lrf, h9, hlr⟩, ⟨tt, h15⟩, ⟨p, h16⟩⟩ := hya
  have h0 : M (md 0) = some (ob 10 [.ref (md 1), .ref (md 2), .ref (md 3), .ref (md 4), .ref (md 5), .ref (md 6), .int (nI nw), .ref (md 7), .ref (md 8), .int (nI cl), .ref (md 9), .int (nI ll), .int wl, .int sp, .ref (md 10), .int (nI 0), .ref (md 11), .ref (md 12), .ref (md 13), .ref (md 14), .ref (md 15), .ref (md 16), .int v22]) := hS.1
  have h10 : M (md 10) = some (ia G 256 f) := hS.2.1
  have h11 : M (md 11) = some (ia G 32 d) := hS.2.2.1
  refine lv_iload_n hx hb dX9_graft_0 rfl (lv_at hl 1 rfl) ?_
  refine lv_aload_n hx hb dX9_graft_1 rfl (lv_at hl 0 rfl) ?_
  refine mm_get S hC hR (C := RX9) (T := TX9) (N := 23) (ref := "ForkWatchModel") (v := .int (nI nw)) 6 h0 inRX9 rfl (by decide) (by decide +kernel) (fun _ h9 => h9) rfl dX9_graft_2 ?_
  refine mm_calli hA hR (va_runS (As := [.int x, .int (nI nw)]) (rest := []) S (c_X9_isIn l G M _ x nw (by omega)) (va_cwS 2 S.2.2.2.2 gX9_graft_X9_isIn rfl rfl rfl (by decide +kernel) ⟨Nat.le_of_ble_eq_true rfl, Nat.le_of_ble_eq_true rfl⟩) (mm_preS hC hA hR _) rfl rfl hl.1 rfl (lv_room (Nat.le_of_ble_eq_true rfl)) dX9_graft_5 ⟨Nat.le_of_ble_eq_true rfl, Nat.le_of_ble_eq_true rfl⟩) (fun r47 M48 H locs hp hR => ?_)
  obtain ⟨er, eM⟩ := hp
  subst eM
  rcases er with ⟨er, qg⟩ | ⟨er, n_x⟩ <;> subst er
  · skip
    obtain ⟨j, hj, e_x⟩ := qg
    rw [e_x] at hl
    refine lv_if_eq (tgt := 30) hx hb dX9_graft_8 (by decide) (fun z => by first | exact absurd z (by decide) | exact absurd (by decide) z) (fun _ => ?_)
    refine lv_iload_n hx hb dX9_graft_11 rfl (lv_at hl 2 rfl) ?_
    refine lv_iconst (v := nI 4) hx hb dX9_graft_12 (by decide) ?_
    refine mm_calli hA hR (va_runS (As := [.int y, .int (nI 4)]) (rest := []) S (c_X9_isIn l G M _ y 4 (by omega)) (va_cwS 2 S.2.2.2.2 gX9_graft_X9_isIn rfl rfl rfl (by decide +kernel) ⟨Nat.le_of_ble_eq_true rfl, Nat.le_of_ble_eq_true rfl⟩) (mm_preS hC hA hR _) rfl rfl hl.1 rfl (lv_room (Nat.le_of_ble_eq_true rfl)) dX9_graft_13 ⟨Nat.le_of_ble_eq_true rfl, Nat.le_of_ble_eq_true rfl⟩) (fun r49 M50 H locs hp hR => ?_)
    obtain ⟨er, eM⟩ := hp
    subst eM
    rcases er with ⟨er, qg⟩ | ⟨er, n_y⟩ <;> subst er
    · skip
      obtain ⟨c, hc, e_y⟩ := qg
      rw [e_y] at hl
      refine lv_if_eq (tgt := 30) hx hb dX9_graft_16 (by decide) (fun z => by first | exact absurd z (by decide) | exact absurd (by decide) z) (fun _ => ?_)
      refine lv_iload_n hx hb dX9_graft_19 rfl (lv_at hl 3 rfl) ?_
      refine lv_aload_n hx hb dX9_graft_20 rfl (lv_at hl 0 rfl) ?_
      refine mm_get S hC hR (C := RX9) (T := TX9) (N := 23) (ref := "ForkWatchModel") (v := .int (nI nw)) 6 h0 inRX9 rfl (by decide) (by decide +kernel) (fun _ h9 => h9) rfl dX9_graft_21 ?_
      refine mm_calli hA hR (va_runS (As := [.int z, .int (nI nw)]) (rest := []) S (c_X9_isIn l G M _ z nw (by omega)) (va_cwS 2 S.2.2.2.2 gX9_graft_X9_isIn rfl rfl rfl (by decide +kernel) ⟨Nat.le_of_ble_eq_true rfl, Nat.le_of_ble_eq_true rfl⟩) (mm_preS hC hA hR _) rfl rfl hl.1 rfl (lv_room (Nat.le_of_ble_eq_true rfl)) dX9_graft_24 ⟨Nat.le_of_ble_eq_true rfl, Nat.le_of_ble_eq_true rfl⟩) (fun r51 M52 H locs hp hR => ?_)
      obtain ⟨er, eM⟩ := hp
      subst eM
      rcases er with ⟨er, qg⟩ | ⟨er, n_z⟩ <;> subst er
      · skip
        obtain ⟨k, hk, e_z⟩ := qg
        rw [e_z] at hl
        refine lv_if_ne (tgt := 32) hx hb dX9_graft_27 (by decide) (fun _ => ?_) (fun z => by first | exact absurd z (by decide) | exact absurd (by decide) z)
        refine lv_iconst (v := nI 0) hx hb dX9_graft_32 (by decide) ?_
        refine lv_istore (lv' := [(4, .int (nI 0)), (0, .ref (md 0)), (1, .int (nI j)), (2, .int (nI c)), (3, .int (nI k))]) hx hb dX9_graft_33 hl (by decide) rfl (fun ls hl => ?_)
        have loop : ∀ (n : Nat) (i : Nat) (s3 : Nat → Int32) (M1 : mm_M) (H : Heap) (locs : List Loc) (ls : Array Slot), (84 < i + n) → (i ≤ 84) → (yS G M1 md (nI nw) (nI cl) (nI ll) wl sp v22 0 f d) → (M1 (md 3) = some (ia G 2016 s3)) → (M1 (md 4) = some (ia G 336 rr0)) → (M1 (md 5) = some (ia G 1152 fs)) → (M1 (md 6) = some (ia G 96 fl)) → (M1 (md 7) = some (ia G 4 s7)) → (M1 (md 8) = some (ia G 64 cof)) → (M1 (md 9) = some (ia G 12 lrf)) → (M1 (md 15) = some (ia G 512 tt)) → (M1 (md 16) = some (ia G 64 p)) → (∀ t, t < i → s3 (84 * (4 * j + c) + t) = ss (84 * (4 * k + c) + t)) → (∀ t, t < 84 * (4 * j + c) ∨ 84 * (4 * j + c) + i ≤ t → s3 t = ss t) → (mm_fr [md 0, md 3, md 4, md 5, md 6, md 7, md 8, md 9, md 10, md 11, md 12, md 13, md 14, md 15, md 16] M M1) → mm_R G s (mm_A M sz) M1 H locs → lv_has ls 5 [(0, .ref (md 0)), (1, .int (nI j)), (2, .int (nI c)), (3, .int (nI k)), (4, .int (nI i))] → W p0 l e0 ({ frames := 1, cells := 0, slots := 0, locals := 40 } : Room) s m0 ([.ref (md 0), .int x, .int y, .int z] : List Value).toArray be0 me0 c0 H locs 0 0 (MQ be0 (va_Qi (fun r M' => (r = 0 ∧ ¬ ((∃ j, j < nw ∧ x = nI j) ∧ (∃ j, j < 4 ∧ y = nI j) ∧ (∃ j, j < nw ∧ z = nI j)) ∧ yA G M' md cl ll wl sp co lr sh rem nw wst wfc wln ∧ mm_fr [md 0, md 3, md 4, md 5, md 6, md 7, md 8, md 9, md 10, md 11, md 12, md 13, md 14, md 15, md 16] M M') ∨ ∃ j c k, j < nw ∧ c < 4 ∧ k < nw ∧ x = nI j ∧ y = nI c ∧ z = nI k ∧ r = 1 ∧ yA G M' md cl ll wl sp co lr sh rem nw (updW wst j c (va_cpy (wst k c) (wst j c) 0 0 84)) wfc wln ∧ mm_fr [md 0, md 3, md 4, md 5, md 6, md 7, md 8, md 9, md 10, md 11, md 12, md 13, md 14, md 15, md 16] M M') (fun M' t => mm_H G (mm_A M sz) M' t.heap) (mm_A M sz)) ([.ref (md 0), .int x, .int y, .int z] : List Value).toArray s 0 0 (mm_A M sz)) (F0 m0 35 ls []) := by
          intro n
          induction n with
          | zero =>
            intro i s3 M1 H locs ls hn hi hS h3 h4 h5 h6 h7 h8 h9 h15 h16 hq1 hq2 hF hR hl
            omega
          | succ n ih =>
            intro i s3 M1 H locs ls hn hi hS h3 h4 h5 h6 h7 h8 h9 h15 h16 hq1 hq2 hF hR hl
            have h0 : M1 (md 0) = some (ob 10 [.ref (md 1), .ref (md 2), .ref (md 3), .ref (md 4), .ref (md 5), .ref (md 6), .int (nI nw), .ref (md 7), .ref (md 8), .int (nI cl), .ref (md 9), .int (nI ll), .int wl, .int sp, .ref (md 10), .int (nI 0), .ref (md 11), .ref (md 12), .ref (md 13), .ref (md 14), .ref (md 15), .ref (md 16), .int v22]) := hS.1
            have h10 : M1 (md 10) = some (ia G 256 f) := hS.2.1
            have h11 : M1 (md 11) = some (ia G 32 d) := hS.2.2.1
            refine lv_iload hx hb dX9_graft_35 (lv_at hl 4 rfl) ?_
            refine lv_bipush (v := nI 84) hx hb dX9_graft_37 (by decide) ?_
            refine lv_icmp_ge (tgt := 74) hx hb dX9_graft_39 (by decide) (fun c53 => ?_) (fun c53 => ?_)
            · have c53 : 84 ≤ i := (nI_leI (a := 84) (b := i) (by omega) (by omega)).mp c53
              have e4 : 84 = i := by omega
              subst e4
              refine lv_iconst (v := nI 1) hx hb dX9_graft_74 (by decide) ?_
              have hz : ∀ j', j' < nw → ∀ c', c' < 4 → ∀ i', i' < 84 → s3 (84 * (4 * j' + c') + i') = updW wst j c (va_cpy (wst k c) (wst j c) 0 0 84) j' c' i' := fun j' hj' c' hc' i' hi' => by
                by_cases e : j' = j ∧ c' = c
                · obtain ⟨e1, e2⟩ := e
                  subst e1 e2
                  rw [uW_s, hq1 i' hi', hs k hk c' hc' i' hi', cpy_in (by omega) (by omega)]
                  congr 1
                  omega
                · rw [uW_n (by omega), hq2 _ (by omega), hs j' hj' c' hc' i' hi']
              exact mm_zret S hr hlocks (by decide) hR (Or.inr ⟨j, c, k, hj, hc, hk, e_x, e_y, e_z, rfl, ⟨⟨_, _, _, hS⟩, ⟨_, h3, hz⟩, ⟨_, h4, hrm⟩, ⟨_, h5, hfs⟩, ⟨_, h6, hfl⟩, ⟨_, h7, hsh⟩, ⟨_, h8, hco⟩, ⟨_, h9, hlr⟩, ⟨_, h15⟩, ⟨_, h16⟩⟩, hF⟩) dX9_graft_75
            · have c53 : ¬ (84 ≤ i) := fun z => c53 ((nI_leI (a := 84) (b := i) (by omega) (by omega)).mpr z)
              refine lv_aload_n hx hb dX9_graft_42 rfl (lv_at hl 0 rfl) ?_
              refine mm_get S hC hR (C := RX9) (T := TX9) (N := 23) (ref := "ForkWatchModel") (v := .ref (md 3)) 2 h0 inRX9 rfl (by decide) (by decide +kernel) (fun _ h9 => h9) rfl dX9_graft_43 ?_
              refine lv_iload_n hx hb dX9_graft_46 rfl (lv_at hl 1 rfl) ?_
              refine lv_iload_n hx hb dX9_graft_47 rfl (lv_at hl 2 rfl) ?_
              refine mm_calli hA hR (va_runS (As := [.int (nI j), .int (nI c)]) (rest := [.ref (md 3)]) S (c_X9_placeOf l G M1 _ j c) (va_cwS 2 S.2.2.2.2 gX9_graft_X9_placeOf rfl rfl rfl (by decide +kernel) ⟨Nat.le_of_ble_eq_true rfl, Nat.le_of_ble_eq_true rfl⟩) (mm_preS hC hA hR _) rfl rfl hl.1 rfl (lv_room (Nat.le_of_ble_eq_true rfl)) dX9_graft_48 ⟨Nat.le_of_ble_eq_true rfl, Nat.le_of_ble_eq_true rfl⟩) (fun r54 M55 H locs hp hR => ?_)
              obtain ⟨er, eM⟩ := hp
              subst eM
              subst er
              refine lv_iload hx hb dX9_graft_51 (lv_at hl 4 rfl) ?_
              refine lv_iadd hx hb dX9_graft_53 ?_
              refine mm_eqi (nI_add _ _) ?_
              refine lv_aload_n hx hb dX9_graft_54 rfl (lv_at hl 0 rfl) ?_
              refine mm_get S hC hR (C := RX9) (T := TX9) (N := 23) (ref := "ForkWatchModel") (v := .ref (md 3)) 2 h0 inRX9 rfl (by decide) (by decide +kernel) (fun _ h9 => h9) rfl dX9_graft_55 ?_
              refine lv_iload_n hx hb dX9_graft_58 rfl (lv_at hl 3 rfl) ?_
              refine lv_iload_n hx hb dX9_graft_59 rfl (lv_at hl 2 rfl) ?_
              refine mm_calli hA hR (va_runS (As := [.int (nI k), .int (nI c)]) (rest := [.ref (md 3), .int (nI (84 * (4 * j + c) + i)), .ref (md 3)]) S (c_X9_placeOf l G M1 _ k c) (va_cwS 2 S.2.2.2.2 gX9_graft_X9_placeOf rfl rfl rfl (by decide +kernel) ⟨Nat.le_of_ble_eq_true rfl, Nat.le_of_ble_eq_true rfl⟩) (mm_preS hC hA hR _) rfl rfl hl.1 rfl (lv_room (Nat.le_of_ble_eq_true rfl)) dX9_graft_60 ⟨Nat.le_of_ble_eq_true rfl, Nat.le_of_ble_eq_true rfl⟩) (fun r56 M57 H locs hp hR => ?_)
              obtain ⟨er, eM⟩ := hp
              subst eM
              subst er
              refine lv_iload hx hb dX9_graft_63 (lv_at hl 4 rfl) ?_
              refine lv_iadd hx hb dX9_graft_65 ?_
              refine mm_eqi (nI_add _ _) ?_
              refine mm_iald S hC hR h3 (j := (84 * (4 * k + c) + i)) (by omega) (by omega) dX9_graft_66 ?_
              refine mm_iast S hC hR h3 (j := (84 * (4 * j + c) + i)) (by omega) (by omega) dX9_graft_67 (fun H locs M58 g60 f59 hR => ?_)
              have h4 := f59.at h4 (mm_nc (yne hJ (by decide) (by decide) (by decide)) mm_n0)
              have h5 := f59.at h5 (mm_nc (yne hJ (by decide) (by decide) (by decide)) mm_n0)
              have h6 := f59.at h6 (mm_nc (yne hJ (by decide) (by decide) (by decide)) mm_n0)
              have h7 := f59.at h7 (mm_nc (yne hJ (by decide) (by decide) (by decide)) mm_n0)
              have h8 := f59.at h8 (mm_nc (yne hJ (by decide) (by decide) (by decide)) mm_n0)
              have h9 := f59.at h9 (mm_nc (yne hJ (by decide) (by decide) (by decide)) mm_n0)
              have h15 := f59.at h15 (mm_nc (yne hJ (by decide) (by decide) (by decide)) mm_n0)
              have h16 := f59.at h16 (mm_nc (yne hJ (by decide) (by decide) (by decide)) mm_n0)
              have h0 := f59.at h0 (mm_nc (yne hJ (by decide) (by decide) (by decide)) mm_n0)
              have h10 := f59.at h10 (mm_nc (yne hJ (by decide) (by decide) (by decide)) mm_n0)
              have h11 := f59.at h11 (mm_nc (yne hJ (by decide) (by decide) (by decide)) mm_n0)
              have h3 : M58 (md 3) = some (ia G 2016 (upd s3 (84 * (4 * j + c) + i) (s3 (84 * (4 * k + c) + i)))) := g60
              have hF := hF.tr f59 (mm_ic 1 rfl mm_i0)
              have hS := hS.out f59 (mm_nc (yne hJ (by decide) (by decide) (by decide)) mm_n0) (mm_nc (yne hJ (by decide) (by decide) (by decide)) mm_n0) (mm_nc (yne hJ (by decide) (by decide) (by decide)) mm_n0) (mm_nc (yne hJ (by decide) (by decide) (by decide)) mm_n0) (mm_nc (yne hJ (by decide) (by decide) (by decide)) mm_n0) (mm_nc (yne hJ (by decide) (by decide) (by decide)) mm_n0) (mm_nc (yne hJ (by decide) (by decide) (by decide)) mm_n0) (mm_nc (yne hJ (by decide) (by decide) (by decide)) mm_n0)
              refine lv_iinc (v := (nI (i + 1))) (lv' := [(4, .int (nI (i + 1))), (0, .ref (md 0)), (1, .int (nI j)), (2, .int (nI c)), (3, .int (nI k))]) hx hb dX9_graft_68 hl (k := 4) rfl (by rw [show Int32.ofInt 1 = nI 1 from by decide]; exact nI_add _ _) (by decide) rfl (fun ls hl => ?_)
              refine lv_goto (tgt := 35) hx hb dX9_graft_71 (by decide) ?_
              have e8 : s3 (84 * (4 * k + c) + i) = ss (84 * (4 * k + c) + i) := by
                by_cases e : k = j
                · rw [e]; exact hq2 _ (by omega)
                · exact hq2 _ (by omega)
              exact ih (i + 1) _ _ H locs ls (by omega) (by omega) hS h3 h4 h5 h6 h7 h8 h9 h15 h16 (fun t ht => by unfold upd; by_cases e : t = i; (rw [if_pos (by omega), e8, e]); (rw [if_neg (by omega)]; exact hq1 t (by omega))) (fun t ht => by unfold upd; rw [if_neg (by omega)]; exact hq2 t (by omega)) hF hR (lv_sub hl [1, 2, 3, 4, 0] rfl)
        exact loop (84 + 1) 0 _ _ _ _ ls (by omega) (by omega) hS h3 h4 h5 h6 h7 h8 h9 h15 h16 (fun j hj => absurd hj (Nat.not_lt_zero j)) (fun t _ => rfl) hF hR (lv_sub hl [1, 2, 3, 4, 0] rfl)
      · skip
        refine lv_if_ne (tgt := 32) hx hb dX9_graft_27 (by decide) (fun z => by first | exact absurd z (by decide) | exact absurd (by decide) z) (fun _ => ?_)
        refine lv_iconst (v := nI 0) hx hb dX9_graft_30 (by decide) ?_
        exact mm_zret S hr hlocks (by decide) hR (Or.inl ⟨rfl, fun q => n_z q.2.2, hya0, hF⟩) dX9_graft_31
    · skip
      refine lv_if_eq (tgt := 30) hx hb dX9_graft_16 (by decide) (fun _ => ?_) (fun z => by first | exact absurd z (by decide) | exact absurd (by decide) z)
      refine lv_iconst (v := nI 0) hx hb dX9_graft_30 (by decide) ?_
      exact mm_zret S hr hlocks (by decide) hR (Or.inl ⟨rfl, fun q => n_y q.2.1, hya0, hF⟩) dX9_graft_31
  · skip
    refine lv_if_eq (tgt := 30) hx hb dX9_graft_8 (by decide) (fun _ => ?_) (fun z => by first | exact absurd z (by decide) | exact absurd (by decide) z)
    refine lv_iconst (v := nI 0) hx hb dX9_graft_30 (by decide) ?_
    exact mm_zret S hr hlocks (by decide) hR (Or.inl ⟨rfl, fun q => n_x q.1, hya0, hF⟩) dX9_graft_31

set_option maxHeartbeats 4000000 in
set_option maxRecDepth 100000 in
/-- spoil(world, file, i, mask) -/
theorem c_X9_spoil (l : Launch) (G : mm_G) (M : mm_M) (sz : Nat) (md : Nat → Nat) (cl ll : Nat) (wl sp : Int32) (co lr : Nat → Int32) (sh : Nat → Nat) (rem : Nat → Nat → Int32) (nw : Nat) (wst : Nat → Nat → Nat → Int32) (wfc : Nat → Nat → Int32) (wln : Nat → Nat → Nat) (x y z v : Int32)  (hya : yA G M md cl ll wl sp co lr sh rem nw wst wfc wln) (hJ : yI md) (hN : yN cl ll co sh rem nw wst wfc wln) : mm_i l yX9_spoil wsX9_spoil ({ frames := 1, cells := 0, slots := 0, locals := 40 } : Room) G ([.ref (md 0), .int x, .int y, .int z, .int v] : List Value) M sz (fun r M' => (r = 0 ∧ ¬ (∃ j fi i k, j < nw ∧ fi < 16 ∧ i < wln j fi ∧ 1 ≤ k ∧ k < 256 ∧ x = nI j ∧ y = nI fi ∧ z = nI i ∧ v = nI k) ∧ yA G M' md cl ll wl sp co lr sh rem nw wst wfc wln ∧ mm_fr [md 0, md 3, md 4, md 5, md 6, md 7, md 8, md 9, md 10, md 11, md 12, md 13, md 14, md 15, md 16] M M') ∨ ∃ j fi i k, j < nw ∧ fi < 16 ∧ i < wln j fi ∧ 1 ≤ k ∧ k < 256 ∧ x = nI j ∧ y = nI fi ∧ z = nI i ∧ v = nI k ∧ r = 1 ∧ yA G M' md cl ll wl sp co lr sh rem nw wst (updS wfc j (upd (wfc j) (fi * 12 + i) (wfc j (fi * 12 + i) ^^^ nI k))) wln ∧ mm_fr [md 0, md 3, md 4, md 5, md 6, md 7, md 8, md 9, md 10, md 11, md 12, md 13, md 14, md 15, md 16] M M') := by
  refine mm_enter (cc := cX9_spoil) (maxL := 6) (ret := (some .boolean)) _ (by decide) rfl (Nat.le_of_ble_eq_true rfl) ?_
  intro p0 e0 s m0 be0 me0 c0 ls S hr hlocks hname hA hC hR hl
  have hx := S.1
  have hb := S.2.1
  have hl : lv_has ls 6 [(0, .ref (md 0)), (1, .int x), (2, .int y), (3, .int z), (4, .int v)] := hl
  have inRX9 : ∀ w ∈ wsX90, w ∈ wsX9_spoil := by decide +kernel
  have hF : mm_fr [md 0, md 3, md 4, md 5, md 6, md 7, md 8, md 9, md 10, md 11, md 12, md 13, md 14, md 15, md 16] M M := mm_fr.rf
  obtain ⟨hN1, hN2, hN3, hN4, hN5, hN6, hN7, hN8, hN9, hN10⟩ := hN
  have hya0 := hya
  obtain ⟨⟨v22, f, d, hS⟩, ⟨ss, h3, hs⟩, ⟨rr0, h4, hrm⟩, ⟨fs, h5, hfs⟩, ⟨fl, h6, hfl⟩, ⟨s7, h7, hsh⟩, ⟨cof, h8, hco⟩, ⟨lrf, h9, hlr⟩, ⟨tt, h15⟩, ⟨p, h16⟩⟩ := hya
  have h0 : M (md 0) = some (ob 10 [.ref (md 1), .ref (md 2), .ref (md 3), .ref (md 4), .ref (md 5), .ref (md 6), .int (nI nw), .ref (md 7), .ref (md 8), .int (nI cl), .ref (md 9), .int (nI ll), .int wl, .int sp, .ref (md 10), .int (nI 0), .ref (md 11), .ref (md 12), .ref (md 13), .ref (md 14), .ref (md 15), .ref (md 16), .int v22]) := hS.1
  have h10 : M (md 10) = some (ia G 256 f) := hS.2.1
  have h11 : M (md 11) = some (ia G 32 d) := hS.2.2.1
  refine lv_iload_n hx hb dX9_spoil_0 rfl (lv_at hl 1 rfl) ?_
  refine lv_aload_n hx hb dX9_spoil_1 rfl (lv_at hl 0 rfl) ?_
  refine mm_get S hC hR (C := RX9) (T := TX9) (N := 23) (ref := "ForkWatchModel") (v := .int (nI nw)) 6 h0 inRX9 rfl (by decide) (by decide +kernel) (fun _ h9 => h9) rfl dX9_spoil_2 ?_
  refine mm_calli hA hR (va_runS (As := [.int x, .int (nI nw)]) (rest := []) S (c_X9_isIn l G M _ x nw (by omega)) (va_cwS 2 S.2.2.2.2 gX9_spoil_X9_isIn rfl rfl rfl (by decide +kernel) ⟨Nat.le_of_ble_eq_true rfl, Nat.le_of_ble_eq_true rfl⟩) (mm_preS hC hA hR _) rfl rfl hl.1 rfl (lv_room (Nat.le_of_ble_eq_true rfl)) dX9_spoil_5 ⟨Nat.le_of_ble_eq_true rfl, Nat.le_of_ble_eq_true rfl⟩) (fun r61 M62 H locs hp hR => ?_)
  obtain ⟨er, eM⟩ := hp
  subst eM
  rcases er with ⟨er, qg⟩ | ⟨er, n_x⟩ <;> subst er
  · skip
    obtain ⟨j, hj, e1⟩ := qg
    subst e1
    refine lv_if_eq (tgt := 34) hx hb dX9_spoil_8 (by decide) (fun z => by first | exact absurd z (by decide) | exact absurd (by decide) z) (fun _ => ?_)
    refine lv_iload_n hx hb dX9_spoil_11 rfl (lv_at hl 2 rfl) ?_
    refine lv_bipush (v := nI 16) hx hb dX9_spoil_12 (by decide) ?_
    refine mm_calli hA hR (va_runS (As := [.int y, .int (nI 16)]) (rest := []) S (c_X9_isIn l G M _ y 16 (by omega)) (va_cwS 2 S.2.2.2.2 gX9_spoil_X9_isIn rfl rfl rfl (by decide +kernel) ⟨Nat.le_of_ble_eq_true rfl, Nat.le_of_ble_eq_true rfl⟩) (mm_preS hC hA hR _) rfl rfl hl.1 rfl (lv_room (Nat.le_of_ble_eq_true rfl)) dX9_spoil_14 ⟨Nat.le_of_ble_eq_true rfl, Nat.le_of_ble_eq_true rfl⟩) (fun r63 M64 H locs hp hR => ?_)
    obtain ⟨er, eM⟩ := hp
    subst eM
    rcases er with ⟨er, qg⟩ | ⟨er, n_y⟩ <;> subst er
    · skip
      obtain ⟨fi, hfi, e1⟩ := qg
      subst e1
      refine lv_if_eq (tgt := 34) hx hb dX9_spoil_17 (by decide) (fun z => by first | exact absurd z (by decide) | exact absurd (by decide) z) (fun _ => ?_)
      refine lv_iload hx hb dX9_spoil_20 (lv_at hl 4 rfl) ?_
      refine lv_iconst (v := nI 1) hx hb dX9_spoil_22 (by decide) ?_
      refine lv_icmp_lt (tgt := 34) hx hb dX9_spoil_23 (by decide) (fun cm1 => ?_) (fun cm1 => ?_)
      · skip
        refine lv_iconst (v := nI 0) hx hb dX9_spoil_34 (by decide) ?_
        exact mm_zret S hr hlocks (by decide) hR (Or.inl ⟨rfl, fun ⟨_, _, _, k9, _, _, _, g1, g2, _, _, _, g3⟩ => (show ¬ (∃ j, 1 ≤ j ∧ j < 256 ∧ v = nI j) from fun ⟨j, h1, h2, e⟩ => by rw [e] at cm1; exact absurd cm1 (nI_nlt h1 (by omega))) ⟨k9, g1, g2, g3⟩, hya0, hF⟩) dX9_spoil_35
      · skip
        refine lv_iload hx hb dX9_spoil_26 (lv_at hl 4 rfl) ?_
        refine lv_sipush (v := nI 255) hx hb dX9_spoil_28 (by decide) ?_
        refine lv_icmp_le (tgt := 36) hx hb dX9_spoil_31 (by decide) (fun cm2 => ?_) (fun cm2 => ?_)
        · skip
          have hx1 : ¬ v < 0 := fun z => cm1 (Int32.lt_trans z (by decide))
          have hx2 : ¬ nI 256 ≤ v := fun z => absurd (Int32.le_trans z cm2) (by decide)
          obtain ⟨jm, hm2, ej⟩ := ((pk_ix v (n := 256) (by decide)).resolve_left hx1).resolve_left hx2
          have hm1 : 1 ≤ jm := Classical.byContradiction (fun z => cm1 (by rw [ej]; exact nI_lt (by omega) (by decide)))
          subst ej
          have hw12 := hN6 j hj fi hfi
          refine lv_bipush (v := nI 16) hx hb dX9_spoil_36 (by decide) ?_
          refine lv_iload_n hx hb dX9_spoil_38 rfl (lv_at hl 1 rfl) ?_
          refine lv_imul hx hb dX9_spoil_39 ?_
          refine mm_eqi (pk_mul _ _) ?_
          refine lv_iload_n hx hb dX9_spoil_40 rfl (lv_at hl 2 rfl) ?_
          refine lv_iadd hx hb dX9_spoil_41 ?_
          refine mm_eqi (nI_add _ _) ?_
          refine lv_istore (lv' := [(5, .int (nI (16 * j + fi))), (0, .ref (md 0)), (1, .int (nI j)), (2, .int (nI fi)), (3, .int z), (4, .int (nI jm))]) hx hb dX9_spoil_42 hl (by decide) rfl (fun ls hl => ?_)
          refine lv_iload_n hx hb dX9_spoil_44 rfl (lv_at hl 4 rfl) ?_
          refine lv_aload_n hx hb dX9_spoil_45 rfl (lv_at hl 1 rfl) ?_
          refine mm_get S hC hR (C := RX9) (T := TX9) (N := 23) (ref := "ForkWatchModel") (v := .ref (md 6)) 5 h0 inRX9 rfl (by decide) (by decide +kernel) (fun _ h9 => h9) rfl dX9_spoil_46 ?_
          refine lv_iload hx hb dX9_spoil_49 (lv_at hl 0 rfl) ?_
          refine mm_iald S hC hR h6 (j := (16 * j + fi)) (by omega) (by omega) dX9_spoil_51 ?_
          refine mm_eqi (hfl j hj fi hfi) ?_
          refine mm_calli hA hR (va_runS (As := [.int z, .int (nI (wln j fi))]) (rest := []) S (c_X9_isIn l G M _ z (wln j fi) (by omega)) (va_cwS 2 S.2.2.2.2 gX9_spoil_X9_isIn rfl rfl rfl (by decide +kernel) ⟨Nat.le_of_ble_eq_true rfl, Nat.le_of_ble_eq_true rfl⟩) (mm_preS hC hA hR _) rfl rfl hl.1 rfl (lv_room (Nat.le_of_ble_eq_true rfl)) dX9_spoil_52 ⟨Nat.le_of_ble_eq_true rfl, Nat.le_of_ble_eq_true rfl⟩) (fun r65 M66 H locs hp hR => ?_)
          obtain ⟨er, eM⟩ := hp
          subst eM
          rcases er with ⟨er, qg⟩ | ⟨er, n_z⟩ <;> subst er
          · skip
            obtain ⟨i, hi, e1⟩ := qg
            subst e1
            refine lv_if_ne (tgt := 60) hx hb dX9_spoil_55 (by decide) (fun _ => ?_) (fun z => by first | exact absurd z (by decide) | exact absurd (by decide) z)
            refine lv_aload_n hx hb dX9_spoil_60 rfl (lv_at hl 1 rfl) ?_
            refine mm_get S hC hR (C := RX9) (T := TX9) (N := 23) (ref := "ForkWatchModel") (v := .ref (md 5)) 4 h0 inRX9 rfl (by decide) (by decide +kernel) (fun _ h9 => h9) rfl dX9_spoil_61 ?_
            refine lv_bipush (v := nI 12) hx hb dX9_spoil_64 (by decide) ?_
            refine lv_iload hx hb dX9_spoil_66 (lv_at hl 0 rfl) ?_
            refine lv_imul hx hb dX9_spoil_68 ?_
            refine mm_eqi (pk_mul _ _) ?_
            refine lv_iload_n hx hb dX9_spoil_69 rfl (lv_at hl 4 rfl) ?_
            refine lv_iadd hx hb dX9_spoil_70 ?_
            refine mm_eqi (nI_add _ _) ?_
            refine lv_dup2_11 hx hb dX9_spoil_71 rfl rfl ?_
            refine mm_iald S hC hR h5 (j := (12 * (16 * j + fi) + i)) (by omega) (by omega) dX9_spoil_72 ?_
            refine lv_iload hx hb dX9_spoil_73 (lv_at hl 5 rfl) ?_
            refine lv_ixor hx hb dX9_spoil_75 ?_
            refine mm_iast S hC hR h5 (j := (12 * (16 * j + fi) + i)) (by omega) (by omega) dX9_spoil_76 (fun H locs M67 g69 f68 hR => ?_)
            have h3 := f68.at h3 (mm_nc (yne hJ (by decide) (by decide) (by decide)) mm_n0)
            have h4 := f68.at h4 (mm_nc (yne hJ (by decide) (by decide) (by decide)) mm_n0)
            have h6 := f68.at h6 (mm_nc (yne hJ (by decide) (by decide) (by decide)) mm_n0)
            have h7 := f68.at h7 (mm_nc (yne hJ (by decide) (by decide) (by decide)) mm_n0)
            have h8 := f68.at h8 (mm_nc (yne hJ (by decide) (by decide) (by decide)) mm_n0)
            have h9 := f68.at h9 (mm_nc (yne hJ (by decide) (by decide) (by decide)) mm_n0)
            have h15 := f68.at h15 (mm_nc (yne hJ (by decide) (by decide) (by decide)) mm_n0)
            have h16 := f68.at h16 (mm_nc (yne hJ (by decide) (by decide) (by decide)) mm_n0)
            have h0 := f68.at h0 (mm_nc (yne hJ (by decide) (by decide) (by decide)) mm_n0)
            have h10 := f68.at h10 (mm_nc (yne hJ (by decide) (by decide) (by decide)) mm_n0)
            have h11 := f68.at h11 (mm_nc (yne hJ (by decide) (by decide) (by decide)) mm_n0)
            have h5 : M67 (md 5) = some (ia G 1152 (upd fs (12 * (16 * j + fi) + i) ((fs (12 * (16 * j + fi) + i)) ^^^ (nI jm)))) := g69
            have hF := hF.tr f68 (mm_ic 3 rfl mm_i0)
            have hS := hS.out f68 (mm_nc (yne hJ (by decide) (by decide) (by decide)) mm_n0) (mm_nc (yne hJ (by decide) (by decide) (by decide)) mm_n0) (mm_nc (yne hJ (by decide) (by decide) (by decide)) mm_n0) (mm_nc (yne hJ (by decide) (by decide) (by decide)) mm_n0) (mm_nc (yne hJ (by decide) (by decide) (by decide)) mm_n0) (mm_nc (yne hJ (by decide) (by decide) (by decide)) mm_n0) (mm_nc (yne hJ (by decide) (by decide) (by decide)) mm_n0) (mm_nc (yne hJ (by decide) (by decide) (by decide)) mm_n0)
            refine lv_iconst (v := nI 1) hx hb dX9_spoil_77 (by decide) ?_
            have hz : ∀ j', j' < nw → ∀ q, q < 192 → upd fs (12 * (16 * j + fi) + i) (fs (12 * (16 * j + fi) + i) ^^^ nI jm) (192 * j' + q) = updS wfc j (upd (wfc j) (fi * 12 + i) (wfc j (fi * 12 + i) ^^^ nI jm)) j' q := fun j' hj' q hq => by
              have e0 : 12 * (16 * j + fi) + i = 192 * j + (fi * 12 + i) := by omega
              by_cases e : j' = j
              · subst e
                rw [uS_s, e0, ← hfs j' hj' (fi * 12 + i) (by omega)]
                unfold upd
                by_cases e3 : q = fi * 12 + i
                · rw [if_pos e3, e3, if_pos rfl]
                · rw [if_neg (by omega), if_neg e3, hfs j' hj' q hq]
              · rw [uS_n e, ← hfs j' hj' q hq]
                unfold upd
                rw [if_neg (by omega)]
            exact mm_zret S hr hlocks (by decide) hR (Or.inr ⟨j, fi, i, jm, hj, hfi, hi, hm1, hm2, rfl, rfl, rfl, rfl, rfl, ⟨⟨_, _, _, hS⟩, ⟨_, h3, hs⟩, ⟨_, h4, hrm⟩, ⟨_, h5, hz⟩, ⟨_, h6, hfl⟩, ⟨_, h7, hsh⟩, ⟨_, h8, hco⟩, ⟨_, h9, hlr⟩, ⟨_, h15⟩, ⟨_, h16⟩⟩, hF⟩) dX9_spoil_78
          · skip
            refine lv_if_ne (tgt := 60) hx hb dX9_spoil_55 (by decide) (fun z => by first | exact absurd z (by decide) | exact absurd (by decide) z) (fun _ => ?_)
            refine lv_iconst (v := nI 0) hx hb dX9_spoil_58 (by decide) ?_
            exact mm_zret S hr hlocks (by decide) hR (Or.inl ⟨rfl, fun ⟨j9, f9, i9, _, g1, g2, g3, _, _, g4, g5, g6, _⟩ => n_z ⟨i9, by rw [(nI_eq (by omega) (by omega)).mp g4, (nI_eq (by omega) (by omega)).mp g5]; exact g3, g6⟩, hya0, hF⟩) dX9_spoil_59
        · skip
          refine lv_iconst (v := nI 0) hx hb dX9_spoil_34 (by decide) ?_
          exact mm_zret S hr hlocks (by decide) hR (Or.inl ⟨rfl, fun ⟨_, _, _, k9, _, _, _, g1, g2, _, _, _, g3⟩ => by rw [g3] at cm2; exact cm2 ((nI_leI (by omega) (by decide)).mpr (by omega)), hya0, hF⟩) dX9_spoil_35
    · skip
      refine lv_if_eq (tgt := 34) hx hb dX9_spoil_17 (by decide) (fun _ => ?_) (fun z => by first | exact absurd z (by decide) | exact absurd (by decide) z)
      refine lv_iconst (v := nI 0) hx hb dX9_spoil_34 (by decide) ?_
      exact mm_zret S hr hlocks (by decide) hR (Or.inl ⟨rfl, fun ⟨_, f9, _, _, _, g2, _, _, _, _, g5, _, _⟩ => n_y ⟨f9, g2, g5⟩, hya0, hF⟩) dX9_spoil_35
  · skip
    refine lv_if_eq (tgt := 34) hx hb dX9_spoil_8 (by decide) (fun _ => ?_) (fun z => by first | exact absurd z (by decide) | exact absurd (by decide) z)
    refine lv_iconst (v := nI 0) hx hb dX9_spoil_34 (by decide) ?_
    exact mm_zret S hr hlocks (by decide) hR (Or.inl ⟨rfl, fun ⟨j9, _, _, _, g1, _, _, _, _, g4, _, _, _⟩ => n_x ⟨j9, g1, g4⟩, hya0, hF⟩) dX9_spoil_35
