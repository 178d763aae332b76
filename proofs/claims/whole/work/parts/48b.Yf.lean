set_option maxHeartbeats 4000000 in
set_option maxRecDepth 100000 in
/-- digest(kind, i) -/
theorem c_X9_digest (l : Launch) (G : mm_G) (M : mm_M) (sz : Nat) (md : Nat → Nat) (cl ll : Nat) (wl sp : Int32) (co lr : Nat → Int32) (sh : Nat → Nat) (rem : Nat → Nat → Int32) (nw : Nat) (wst : Nat → Nat → Nat → Int32) (wfc : Nat → Nat → Int32) (wln : Nat → Nat → Nat) (x y : Int32)  (hya : yA G M md cl ll wl sp co lr sh rem nw wst wfc wln) (hJ : yI md) (hN : yN cl ll co sh rem nw wst wfc wln) : mm_i l yX9_digest wsX9_digest ({ frames := 4, cells := 0, slots := 0, locals := 190 } : Room) G ([.ref (md 0), .int x, .int y] : List Value) M sz (fun r M' => ((¬ ((∃ j, j < 2 ∧ x = nI j) ∧ ∃ j, j < 32 ∧ y = nI j) ∧ r = -1) ∨ (∃ i, i < 32 ∧ x = nI 0 ∧ y = nI i ∧ r = dgb cl co i) ∨ ∃ i, i < 32 ∧ x = nI 1 ∧ y = nI i ∧ r = macb cl co i) ∧ yA G M' md cl ll wl sp co lr sh rem nw wst wfc wln ∧ mm_fr [md 0, md 3, md 4, md 5, md 6, md 7, md 8, md 9, md 10, md 11, md 12, md 13, md 14, md 15, md 16] M M') := by
  refine mm_enter (cc := cX9_digest) (maxL := 4) (ret := (some .int)) _ (by decide) rfl (Nat.le_of_ble_eq_true rfl) ?_
  intro p0 e0 s m0 be0 me0 c0 ls S hr hlocks hname hA hC hR hl
  have hx := S.1
  have hb := S.2.1
  have hl : lv_has ls 4 [(0, .ref (md 0)), (1, .int x), (2, .int y)] := hl
  have inRX9 : ∀ w ∈ wsX90, w ∈ wsX9_digest := by decide +kernel
  have hF : mm_fr [md 0, md 3, md 4, md 5, md 6, md 7, md 8, md 9, md 10, md 11, md 12, md 13, md 14, md 15, md 16] M M := mm_fr.rf
  obtain ⟨hN1, hN2, hN3, hN4, hN5, hN6, hN7, hN8, hN9, hN10⟩ := hN
  have hya0 := hya
  obtain ⟨⟨v22, f, d, hS⟩, ⟨ss, h3, hs⟩, ⟨rr0, h4, hrm⟩, ⟨fs, h5, hfs⟩, ⟨fl, h6, hfl⟩, ⟨s7, h7, hsh⟩, ⟨cof, h8, hco⟩, ⟨lrf, h9, hlr⟩, ⟨tt, h15⟩, ⟨p, h16⟩⟩ := hya
  have h0 : M (md 0) = some (ob 10 [.ref (md 1), .ref (md 2), .ref (md 3), .ref (md 4), .ref (md 5), .ref (md 6), .int (nI nw), .ref (md 7), .ref (md 8), .int (nI cl), .ref (md 9), .int (nI ll), .int wl, .int sp, .ref (md 10), .int (nI 0), .ref (md 11), .ref (md 12), .ref (md 13), .ref (md 14), .ref (md 15), .ref (md 16), .int v22]) := hS.1
  have h10 : M (md 10) = some (ia G 256 f) := hS.2.1
  have h11 : M (md 11) = some (ia G 32 d) := hS.2.2.1
  refine lv_iload_n hx hb dX9_digest_0 rfl (lv_at hl 1 rfl) ?_
  refine lv_if_lt (tgt := 18) hx hb dX9_digest_1 (by decide) (fun c1 => ?_) (fun c1 => ?_)
  · skip
    refine lv_iconst (v := -1) hx hb dX9_digest_18 (by decide) ?_
    exact mm_iret S hr hlocks hR ⟨Or.inl ⟨fun z => by obtain ⟨⟨j, hj, e⟩, _⟩ := z; rw [e] at c1; exact nI_pos (by omega) c1, rfl⟩, hya0, hF⟩ dX9_digest_19
  · skip
    refine lv_iload_n hx hb dX9_digest_4 rfl (lv_at hl 1 rfl) ?_
    refine lv_iconst (v := nI 1) hx hb dX9_digest_5 (by decide) ?_
    refine lv_icmp_gt (tgt := 18) hx hb dX9_digest_6 (by decide) (fun c2 => ?_) (fun c2 => ?_)
    · skip
      refine lv_iconst (v := -1) hx hb dX9_digest_18 (by decide) ?_
      exact mm_iret S hr hlocks hR ⟨Or.inl ⟨fun z => by obtain ⟨⟨j, hj, e⟩, _⟩ := z; rw [e] at c2; exact absurd c2 (nI_nlt (show j ≤ 1 by omega) (by omega)), rfl⟩, hya0, hF⟩ dX9_digest_19
    · skip
      have hx2 : ¬ nI 2 ≤ x := fun z => c2 (Int32.lt_of_lt_of_le (show nI 1 < nI 2 by decide) z)
      obtain ⟨kd, hkd, e_x⟩ := ((pk_ix x (n := 2) (by decide)).resolve_left c1).resolve_left hx2
      refine lv_iload_n hx hb dX9_digest_9 rfl (lv_at hl 2 rfl) ?_
      refine lv_bipush (v := nI 32) hx hb dX9_digest_10 (by decide) ?_
      refine mm_calli hA hR (va_runS (As := [.int y, .int (nI 32)]) (rest := []) S (c_X9_isIn l G M _ y 32 (by omega)) (va_cwS 2 S.2.2.2.2 gX9_digest_X9_isIn rfl rfl rfl (by decide +kernel) ⟨Nat.le_of_ble_eq_true rfl, Nat.le_of_ble_eq_true rfl⟩) (mm_preS hC hA hR _) rfl rfl hl.1 rfl (lv_room (Nat.le_of_ble_eq_true rfl)) dX9_digest_12 ⟨Nat.le_of_ble_eq_true rfl, Nat.le_of_ble_eq_true rfl⟩) (fun r1 M2 H locs hp hR => ?_)
      obtain ⟨er, eM⟩ := hp
      subst eM
      rcases er with ⟨er, qg⟩ | ⟨er, n_y⟩ <;> subst er
      · skip
        obtain ⟨i, hi9, e_y⟩ := qg
        rw [e_y] at hl
        refine lv_if_ne (tgt := 20) hx hb dX9_digest_15 (by decide) (fun _ => ?_) (fun z => by first | exact absurd z (by decide) | exact absurd (by decide) z)
        rw [e_x] at hl
        refine lv_aload_n hx hb dX9_digest_20 rfl (lv_at hl 0 rfl) ?_
        refine lv_aload_n hx hb dX9_digest_21 rfl (lv_at hl 0 rfl) ?_
        refine mm_get S hC hR (C := RX9) (T := TX9) (N := 23) (ref := "ForkWatchModel") (v := .int (nI cl)) 9 h0 inRX9 rfl (by decide) (by decide +kernel) (fun _ h9 => h9) rfl dX9_digest_22 ?_
        refine mm_put S hC hR (C := RX9) (T := TX9) (N := 23) (ref := "ForkWatchModel") 22 h0 inRX9 rfl tyX9_ok nmX9 (by decide) (by decide +kernel) (fun _ h9 => h9) rfl rfl rfl (Nat.le_of_ble_eq_true rfl) dX9_digest_25 (fun H locs M3 g5 f4 hR => ?_)
        have h3 := f4.at h3 (mm_nc (yne hJ (by decide) (by decide) (by decide)) mm_n0)
        have h4 := f4.at h4 (mm_nc (yne hJ (by decide) (by decide) (by decide)) mm_n0)
        have h5 := f4.at h5 (mm_nc (yne hJ (by decide) (by decide) (by decide)) mm_n0)
        have h6 := f4.at h6 (mm_nc (yne hJ (by decide) (by decide) (by decide)) mm_n0)
        have h7 := f4.at h7 (mm_nc (yne hJ (by decide) (by decide) (by decide)) mm_n0)
        have h8 := f4.at h8 (mm_nc (yne hJ (by decide) (by decide) (by decide)) mm_n0)
        have h9 := f4.at h9 (mm_nc (yne hJ (by decide) (by decide) (by decide)) mm_n0)
        have h15 := f4.at h15 (mm_nc (yne hJ (by decide) (by decide) (by decide)) mm_n0)
        have h16 := f4.at h16 (mm_nc (yne hJ (by decide) (by decide) (by decide)) mm_n0)
        have h10 := f4.at h10 (mm_nc (yne hJ (by decide) (by decide) (by decide)) mm_n0)
        have h11 := f4.at h11 (mm_nc (yne hJ (by decide) (by decide) (by decide)) mm_n0)
        have h0 : M3 (md 0) = some (ob 10 [.ref (md 1), .ref (md 2), .ref (md 3), .ref (md 4), .ref (md 5), .ref (md 6), .int (nI nw), .ref (md 7), .ref (md 8), .int (nI cl), .ref (md 9), .int (nI ll), .int wl, .int sp, .ref (md 10), .int (nI 0), .ref (md 11), .ref (md 12), .ref (md 13), .ref (md 14), .ref (md 15), .ref (md 16), .int (nI cl)]) := g5
        have hF := hF.tr f4 (mm_ic 0 rfl mm_i0)
        have hS := hS.ob hJ f4 h0
        refine lv_iconst (v := nI 0) hx hb dX9_digest_28 (by decide) ?_
        refine lv_istore_n (lv' := [(3, .int (nI 0)), (0, .ref (md 0)), (1, .int (nI kd)), (2, .int (nI i))]) hx hb dX9_digest_29 rfl hl (by decide) rfl (fun ls hl => ?_)
        have loopA : ∀ (n : Nat) (k : Nat)  (M1 : mm_M) (H : Heap) (locs : List Loc) (ls : Array Slot), (cl < k + n) → (k ≤ cl) → (yS G M1 md (nI nw) (nI cl) (nI ll) wl sp (nI cl) 0 f d) → (M1 (md 3) = some (ia G 2016 ss)) → (M1 (md 4) = some (ia G 336 rr0)) → (M1 (md 5) = some (ia G 1152 fs)) → (M1 (md 6) = some (ia G 96 fl)) → (M1 (md 7) = some (ia G 4 s7)) → (M1 (md 8) = some (ia G 64 cof)) → (M1 (md 9) = some (ia G 12 lrf)) → (M1 (md 15) = some (ia G 512 tt)) → (M1 (md 16) = some (ia G 64 (va_cpy cof p 0 0 k))) → (mm_fr [md 0, md 3, md 4, md 5, md 6, md 7, md 8, md 9, md 10, md 11, md 12, md 13, md 14, md 15, md 16] M M1) → mm_R G s (mm_A M sz) M1 H locs → lv_has ls 4 [(0, .ref (md 0)), (1, .int (nI kd)), (2, .int (nI i)), (3, .int (nI k))] → W p0 l e0 ({ frames := 4, cells := 0, slots := 0, locals := 190 } : Room) s m0 ([.ref (md 0), .int x, .int y] : List Value).toArray be0 me0 c0 H locs 0 0 (MQ be0 (va_Qi (fun r M' => ((¬ ((∃ j, j < 2 ∧ x = nI j) ∧ ∃ j, j < 32 ∧ y = nI j) ∧ r = -1) ∨ (∃ i, i < 32 ∧ x = nI 0 ∧ y = nI i ∧ r = dgb cl co i) ∨ ∃ i, i < 32 ∧ x = nI 1 ∧ y = nI i ∧ r = macb cl co i) ∧ yA G M' md cl ll wl sp co lr sh rem nw wst wfc wln ∧ mm_fr [md 0, md 3, md 4, md 5, md 6, md 7, md 8, md 9, md 10, md 11, md 12, md 13, md 14, md 15, md 16] M M') (fun M' t => mm_H G (mm_A M sz) M' t.heap) (mm_A M sz)) ([.ref (md 0), .int x, .int y] : List Value).toArray s 0 0 (mm_A M sz)) (F0 m0 30 ls []) := by
          intro n
          induction n with
          | zero =>
            intro k  M1 H locs ls hn hi hS h3 h4 h5 h6 h7 h8 h9 h15 h16 hF hR hl
            omega
          | succ n ih =>
            intro k  M1 H locs ls hn hi hS h3 h4 h5 h6 h7 h8 h9 h15 h16 hF hR hl
            have h0 : M1 (md 0) = some (ob 10 [.ref (md 1), .ref (md 2), .ref (md 3), .ref (md 4), .ref (md 5), .ref (md 6), .int (nI nw), .ref (md 7), .ref (md 8), .int (nI cl), .ref (md 9), .int (nI ll), .int wl, .int sp, .ref (md 10), .int (nI 0), .ref (md 11), .ref (md 12), .ref (md 13), .ref (md 14), .ref (md 15), .ref (md 16), .int (nI cl)]) := hS.1
            have h10 : M1 (md 10) = some (ia G 256 f) := hS.2.1
            have h11 : M1 (md 11) = some (ia G 32 d) := hS.2.2.1
            refine lv_iload_n hx hb dX9_digest_30 rfl (lv_at hl 3 rfl) ?_
            refine lv_aload_n hx hb dX9_digest_31 rfl (lv_at hl 0 rfl) ?_
            refine mm_get S hC hR (C := RX9) (T := TX9) (N := 23) (ref := "ForkWatchModel") (v := .int (nI cl)) 9 h0 inRX9 rfl (by decide) (by decide +kernel) (fun _ h9 => h9) rfl dX9_digest_32 ?_
            refine lv_icmp_ge (tgt := 56) hx hb dX9_digest_35 (by decide) (fun c6 => ?_) (fun c6 => ?_)
            · have c6 : cl ≤ k := (nI_leI (a := cl) (b := k) (by omega) (by omega)).mp c6
              have e4 : cl = k := by omega
              subst e4
              obtain ⟨p1, ep1⟩ : ∃ z : Nat → Int32, z = va_cpy cof p 0 0 cl := ⟨_, rfl⟩
              rw [← ep1] at h16
              have hp1 : ∀ q, q < cl → p1 q = co q := fun q hq => by rw [ep1, cpy_in (by omega) (by omega), show 0 + (q - 0) = q by omega]; exact hco q hq
              refine lv_iload_n hx hb dX9_digest_56 rfl (lv_at hl 1 rfl) ?_
              refine lv_iconst (v := nI 1) hx hb dX9_digest_57 (by decide) ?_
              refine lv_icmp_ne (tgt := 68) hx hb dX9_digest_58 (by decide) (fun ck => ?_) (fun ck => ?_)
              · have ck : kd ≠ 1 := fun z => ck (congrArg nI z)
                have ek : kd = 0 := by omega
                refine lv_aload_n hx hb dX9_digest_68 rfl (lv_at hl 0 rfl) ?_
                refine lv_iconst (v := nI 0) hx hb dX9_digest_69 (by decide) ?_
                refine mm_put S hC hR (C := RX9) (T := TX9) (N := 23) (ref := "ForkWatchModel") 15 h0 inRX9 rfl tyX9_ok nmX9 (by decide) (by decide +kernel) (fun _ h9 => h9) rfl rfl rfl (Nat.le_of_ble_eq_true rfl) dX9_digest_70 (fun H locs M7 g9 f8 hR => ?_)
                have h3 := f8.at h3 (mm_nc (yne hJ (by decide) (by decide) (by decide)) mm_n0)
                have h4 := f8.at h4 (mm_nc (yne hJ (by decide) (by decide) (by decide)) mm_n0)
                have h5 := f8.at h5 (mm_nc (yne hJ (by decide) (by decide) (by decide)) mm_n0)
                have h6 := f8.at h6 (mm_nc (yne hJ (by decide) (by decide) (by decide)) mm_n0)
                have h7 := f8.at h7 (mm_nc (yne hJ (by decide) (by decide) (by decide)) mm_n0)
                have h8 := f8.at h8 (mm_nc (yne hJ (by decide) (by decide) (by decide)) mm_n0)
                have h9 := f8.at h9 (mm_nc (yne hJ (by decide) (by decide) (by decide)) mm_n0)
                have h15 := f8.at h15 (mm_nc (yne hJ (by decide) (by decide) (by decide)) mm_n0)
                have h16 := f8.at h16 (mm_nc (yne hJ (by decide) (by decide) (by decide)) mm_n0)
                have h10 := f8.at h10 (mm_nc (yne hJ (by decide) (by decide) (by decide)) mm_n0)
                have h11 := f8.at h11 (mm_nc (yne hJ (by decide) (by decide) (by decide)) mm_n0)
                have h0 : M7 (md 0) = some (ob 10 [.ref (md 1), .ref (md 2), .ref (md 3), .ref (md 4), .ref (md 5), .ref (md 6), .int (nI nw), .ref (md 7), .ref (md 8), .int (nI cl), .ref (md 9), .int (nI ll), .int wl, .int sp, .ref (md 10), .int (nI 0), .ref (md 11), .ref (md 12), .ref (md 13), .ref (md 14), .ref (md 15), .ref (md 16), .int (nI cl)]) := g9
                have hF := hF.tr f8 (mm_ic 0 rfl mm_i0)
                have hS := hS.ob hJ f8 h0
                refine lv_iconst (v := nI 0) hx hb dX9_digest_73 (by decide) ?_
                refine lv_istore_n (lv' := [(3, .int (nI 0)), (0, .ref (md 0)), (1, .int (nI kd)), (2, .int (nI i))]) hx hb dX9_digest_74 rfl hl (by decide) rfl (fun ls hl => ?_)
                have loopB : ∀ (n : Nat) (k : Nat) (fm : Nat → Int32) (M1 : mm_M) (H : Heap) (locs : List Loc) (ls : Array Slot), (cl < k + n) → (k ≤ cl) → (yS G M1 md (nI nw) (nI cl) (nI ll) wl sp (nI cl) k fm d) → (M1 (md 3) = some (ia G 2016 ss)) → (M1 (md 4) = some (ia G 336 rr0)) → (M1 (md 5) = some (ia G 1152 fs)) → (M1 (md 6) = some (ia G 96 fl)) → (M1 (md 7) = some (ia G 4 s7)) → (M1 (md 8) = some (ia G 64 cof)) → (M1 (md 9) = some (ia G 12 lrf)) → (M1 (md 15) = some (ia G 512 tt)) → (M1 (md 16) = some (ia G 64 p1)) → (∀ q, q < k → fm q = co q) → (mm_fr [md 0, md 3, md 4, md 5, md 6, md 7, md 8, md 9, md 10, md 11, md 12, md 13, md 14, md 15, md 16] M M1) → mm_R G s (mm_A M sz) M1 H locs → lv_has ls 4 [(0, .ref (md 0)), (1, .int (nI kd)), (2, .int (nI i)), (3, .int (nI k))] → W p0 l e0 ({ frames := 4, cells := 0, slots := 0, locals := 190 } : Room) s m0 ([.ref (md 0), .int x, .int y] : List Value).toArray be0 me0 c0 H locs 0 0 (MQ be0 (va_Qi (fun r M' => ((¬ ((∃ j, j < 2 ∧ x = nI j) ∧ ∃ j, j < 32 ∧ y = nI j) ∧ r = -1) ∨ (∃ i, i < 32 ∧ x = nI 0 ∧ y = nI i ∧ r = dgb cl co i) ∨ ∃ i, i < 32 ∧ x = nI 1 ∧ y = nI i ∧ r = macb cl co i) ∧ yA G M' md cl ll wl sp co lr sh rem nw wst wfc wln ∧ mm_fr [md 0, md 3, md 4, md 5, md 6, md 7, md 8, md 9, md 10, md 11, md 12, md 13, md 14, md 15, md 16] M M') (fun M' t => mm_H G (mm_A M sz) M' t.heap) (mm_A M sz)) ([.ref (md 0), .int x, .int y] : List Value).toArray s 0 0 (mm_A M sz)) (F0 m0 75 ls []) := by
                  intro n
                  induction n with
                  | zero =>
                    intro k fm M1 H locs ls hn hi hS h3 h4 h5 h6 h7 h8 h9 h15 h16 hm hF hR hl
                    omega
                  | succ n ih =>
                    intro k fm M1 H locs ls hn hi hS h3 h4 h5 h6 h7 h8 h9 h15 h16 hm hF hR hl
                    have h0 : M1 (md 0) = some (ob 10 [.ref (md 1), .ref (md 2), .ref (md 3), .ref (md 4), .ref (md 5), .ref (md 6), .int (nI nw), .ref (md 7), .ref (md 8), .int (nI cl), .ref (md 9), .int (nI ll), .int wl, .int sp, .ref (md 10), .int (nI k), .ref (md 11), .ref (md 12), .ref (md 13), .ref (md 14), .ref (md 15), .ref (md 16), .int (nI cl)]) := hS.1
                    have h10 : M1 (md 10) = some (ia G 256 fm) := hS.2.1
                    have h11 : M1 (md 11) = some (ia G 32 d) := hS.2.2.1
                    refine lv_iload_n hx hb dX9_digest_75 rfl (lv_at hl 3 rfl) ?_
                    refine lv_aload_n hx hb dX9_digest_76 rfl (lv_at hl 0 rfl) ?_
                    refine mm_get S hC hR (C := RX9) (T := TX9) (N := 23) (ref := "ForkWatchModel") (v := .int (nI cl)) 9 h0 inRX9 rfl (by decide) (by decide +kernel) (fun _ h9 => h9) rfl dX9_digest_77 ?_
                    refine lv_icmp_ge (tgt := 99) hx hb dX9_digest_80 (by decide) (fun c10 => ?_) (fun c10 => ?_)
                    · have c10 : cl ≤ k := (nI_leI (a := cl) (b := k) (by omega) (by omega)).mp c10
                      have e4 : cl = k := by omega
                      subst e4
                      refine lv_aload_n hx hb dX9_digest_99 rfl (lv_at hl 0 rfl) ?_
                      refine mm_callv hA hR (va_runV (As := []) (rest := []) S (c_X9_hash l G M1 _ md _ _ _ _ _ _ _ _ _ hJ hS (by omega)) (cwV 0 S.2.2.2.2 gX9_digest_X9_hash rfl rfl rfl (by decide +kernel) ⟨Nat.le_of_ble_eq_true rfl, Nat.le_of_ble_eq_true rfl⟩) (mm_preV hC hA hR _ h0 rfl) rfl rfl hl.1 rfl (lv_room (Nat.le_of_ble_eq_true rfl)) dX9_digest_100 ⟨Nat.le_of_ble_eq_true rfl, Nat.le_of_ble_eq_true rfl⟩) (fun M12 H locs hp hR => ?_)
                      obtain ⟨fb, d2, hS, hd, ff⟩ := hp
                      have h3 := ff.at h3 (mm_nc (yne hJ (by decide) (by decide) (by decide)) (mm_nc (yne hJ (by decide) (by decide) (by decide)) (mm_nc (yne hJ (by decide) (by decide) (by decide)) (mm_nc (yne hJ (by decide) (by decide) (by decide)) (mm_nc (yne hJ (by decide) (by decide) (by decide)) mm_n0)))))
                      have h4 := ff.at h4 (mm_nc (yne hJ (by decide) (by decide) (by decide)) (mm_nc (yne hJ (by decide) (by decide) (by decide)) (mm_nc (yne hJ (by decide) (by decide) (by decide)) (mm_nc (yne hJ (by decide) (by decide) (by decide)) (mm_nc (yne hJ (by decide) (by decide) (by decide)) mm_n0)))))
                      have h5 := ff.at h5 (mm_nc (yne hJ (by decide) (by decide) (by decide)) (mm_nc (yne hJ (by decide) (by decide) (by decide)) (mm_nc (yne hJ (by decide) (by decide) (by decide)) (mm_nc (yne hJ (by decide) (by decide) (by decide)) (mm_nc (yne hJ (by decide) (by decide) (by decide)) mm_n0)))))
                      have h6 := ff.at h6 (mm_nc (yne hJ (by decide) (by decide) (by decide)) (mm_nc (yne hJ (by decide) (by decide) (by decide)) (mm_nc (yne hJ (by decide) (by decide) (by decide)) (mm_nc (yne hJ (by decide) (by decide) (by decide)) (mm_nc (yne hJ (by decide) (by decide) (by decide)) mm_n0)))))
                      have h7 := ff.at h7 (mm_nc (yne hJ (by decide) (by decide) (by decide)) (mm_nc (yne hJ (by decide) (by decide) (by decide)) (mm_nc (yne hJ (by decide) (by decide) (by decide)) (mm_nc (yne hJ (by decide) (by decide) (by decide)) (mm_nc (yne hJ (by decide) (by decide) (by decide)) mm_n0)))))
                      have h8 := ff.at h8 (mm_nc (yne hJ (by decide) (by decide) (by decide)) (mm_nc (yne hJ (by decide) (by decide) (by decide)) (mm_nc (yne hJ (by decide) (by decide) (by decide)) (mm_nc (yne hJ (by decide) (by decide) (by decide)) (mm_nc (yne hJ (by decide) (by decide) (by decide)) mm_n0)))))
                      have h9 := ff.at h9 (mm_nc (yne hJ (by decide) (by decide) (by decide)) (mm_nc (yne hJ (by decide) (by decide) (by decide)) (mm_nc (yne hJ (by decide) (by decide) (by decide)) (mm_nc (yne hJ (by decide) (by decide) (by decide)) (mm_nc (yne hJ (by decide) (by decide) (by decide)) mm_n0)))))
                      have h15 := ff.at h15 (mm_nc (yne hJ (by decide) (by decide) (by decide)) (mm_nc (yne hJ (by decide) (by decide) (by decide)) (mm_nc (yne hJ (by decide) (by decide) (by decide)) (mm_nc (yne hJ (by decide) (by decide) (by decide)) (mm_nc (yne hJ (by decide) (by decide) (by decide)) mm_n0)))))
                      have h16 := ff.at h16 (mm_nc (yne hJ (by decide) (by decide) (by decide)) (mm_nc (yne hJ (by decide) (by decide) (by decide)) (mm_nc (yne hJ (by decide) (by decide) (by decide)) (mm_nc (yne hJ (by decide) (by decide) (by decide)) (mm_nc (yne hJ (by decide) (by decide) (by decide)) mm_n0)))))
                      have h0 : M12 (md 0) = some (ob 10 [.ref (md 1), .ref (md 2), .ref (md 3), .ref (md 4), .ref (md 5), .ref (md 6), .int (nI nw), .ref (md 7), .ref (md 8), .int (nI cl), .ref (md 9), .int (nI ll), .int wl, .int sp, .ref (md 10), .int (nI 0), .ref (md 11), .ref (md 12), .ref (md 13), .ref (md 14), .ref (md 15), .ref (md 16), .int (nI cl)]) := hS.1
                      have h10 : M12 (md 10) = some (ia G 256 fb) := hS.2.1
                      have h11 : M12 (md 11) = some (ia G 32 d2) := hS.2.2.1
                      have hF := hF.tr ff (mm_ic 0 rfl (mm_ic 8 rfl (mm_ic 9 rfl (mm_ic 11 rfl (mm_ic 12 rfl mm_i0)))))
                      refine lv_aload_n hx hb dX9_digest_103 rfl (lv_at hl 0 rfl) ?_
                      refine mm_get S hC hR (C := RX9) (T := TX9) (N := 23) (ref := "ForkWatchModel") (v := .ref (md 11)) 16 h0 inRX9 rfl (by decide) (by decide +kernel) (fun _ h9 => h9) rfl dX9_digest_104 ?_
                      refine lv_iload_n hx hb dX9_digest_107 rfl (lv_at hl 2 rfl) ?_
                      refine mm_iald S hC hR h11 (j := i) (by omega) (by omega) dX9_digest_108 ?_
                      exact mm_iret S hr hlocks hR ⟨Or.inr (Or.inl ⟨i, hi9, by rw [e_x, ek], e_y, by rw [hd i hi9, dgb_ag hm]⟩), ⟨⟨_, _, _, hS⟩, ⟨_, h3, hs⟩, ⟨_, h4, hrm⟩, ⟨_, h5, hfs⟩, ⟨_, h6, hfl⟩, ⟨_, h7, hsh⟩, ⟨_, h8, hco⟩, ⟨_, h9, hlr⟩, ⟨_, h15⟩, ⟨_, h16⟩⟩, hF⟩ dX9_digest_109
                    · have c10 : ¬ (cl ≤ k) := fun z => c10 ((nI_leI (a := cl) (b := k) (by omega) (by omega)).mpr z)
                      refine lv_aload_n hx hb dX9_digest_83 rfl (lv_at hl 0 rfl) ?_
                      refine lv_aload_n hx hb dX9_digest_84 rfl (lv_at hl 0 rfl) ?_
                      refine mm_get S hC hR (C := RX9) (T := TX9) (N := 23) (ref := "ForkWatchModel") (v := .ref (md 8)) 8 h0 inRX9 rfl (by decide) (by decide +kernel) (fun _ h9 => h9) rfl dX9_digest_85 ?_
                      refine lv_iload_n hx hb dX9_digest_88 rfl (lv_at hl 3 rfl) ?_
                      refine mm_iald S hC hR h8 (j := k) (by omega) (by omega) dX9_digest_89 ?_
                      refine mm_callv hA hR (va_runV (As := [.int (cof k)]) (rest := []) S (c_X9_add l G M1 _ md _ _ _ _ _ _ _ _ _ (cof k) hJ hS (by omega)) (cwV 1 S.2.2.2.2 gX9_digest_X9_add rfl rfl rfl (by decide +kernel) ⟨Nat.le_of_ble_eq_true rfl, Nat.le_of_ble_eq_true rfl⟩) (mm_preV hC hA hR _ h0 rfl) rfl rfl hl.1 rfl (lv_room (Nat.le_of_ble_eq_true rfl)) dX9_digest_90 ⟨Nat.le_of_ble_eq_true rfl, Nat.le_of_ble_eq_true rfl⟩) (fun M14 H locs hp hR => ?_)
                      obtain ⟨hS, ff⟩ := hp
                      have h3 := ff.at h3 (mm_nc (yne hJ (by decide) (by decide) (by decide)) (mm_nc (yne hJ (by decide) (by decide) (by decide)) (mm_nc (yne hJ (by decide) (by decide) (by decide)) (mm_nc (yne hJ (by decide) (by decide) (by decide)) (mm_nc (yne hJ (by decide) (by decide) (by decide)) mm_n0)))))
                      have h4 := ff.at h4 (mm_nc (yne hJ (by decide) (by decide) (by decide)) (mm_nc (yne hJ (by decide) (by decide) (by decide)) (mm_nc (yne hJ (by decide) (by decide) (by decide)) (mm_nc (yne hJ (by decide) (by decide) (by decide)) (mm_nc (yne hJ (by decide) (by decide) (by decide)) mm_n0)))))
                      have h5 := ff.at h5 (mm_nc (yne hJ (by decide) (by decide) (by decide)) (mm_nc (yne hJ (by decide) (by decide) (by decide)) (mm_nc (yne hJ (by decide) (by decide) (by decide)) (mm_nc (yne hJ (by decide) (by decide) (by decide)) (mm_nc (yne hJ (by decide) (by decide) (by decide)) mm_n0)))))
                      have h6 := ff.at h6 (mm_nc (yne hJ (by decide) (by decide) (by decide)) (mm_nc (yne hJ (by decide) (by decide) (by decide)) (mm_nc (yne hJ (by decide) (by decide) (by decide)) (mm_nc (yne hJ (by decide) (by decide) (by decide)) (mm_nc (yne hJ (by decide) (by decide) (by decide)) mm_n0)))))
                      have h7 := ff.at h7 (mm_nc (yne hJ (by decide) (by decide) (by decide)) (mm_nc (yne hJ (by decide) (by decide) (by decide)) (mm_nc (yne hJ (by decide) (by decide) (by decide)) (mm_nc (yne hJ (by decide) (by decide) (by decide)) (mm_nc (yne hJ (by decide) (by decide) (by decide)) mm_n0)))))
                      have h8 := ff.at h8 (mm_nc (yne hJ (by decide) (by decide) (by decide)) (mm_nc (yne hJ (by decide) (by decide) (by decide)) (mm_nc (yne hJ (by decide) (by decide) (by decide)) (mm_nc (yne hJ (by decide) (by decide) (by decide)) (mm_nc (yne hJ (by decide) (by decide) (by decide)) mm_n0)))))
                      have h9 := ff.at h9 (mm_nc (yne hJ (by decide) (by decide) (by decide)) (mm_nc (yne hJ (by decide) (by decide) (by decide)) (mm_nc (yne hJ (by decide) (by decide) (by decide)) (mm_nc (yne hJ (by decide) (by decide) (by decide)) (mm_nc (yne hJ (by decide) (by decide) (by decide)) mm_n0)))))
                      have h15 := ff.at h15 (mm_nc (yne hJ (by decide) (by decide) (by decide)) (mm_nc (yne hJ (by decide) (by decide) (by decide)) (mm_nc (yne hJ (by decide) (by decide) (by decide)) (mm_nc (yne hJ (by decide) (by decide) (by decide)) (mm_nc (yne hJ (by decide) (by decide) (by decide)) mm_n0)))))
                      have h16 := ff.at h16 (mm_nc (yne hJ (by decide) (by decide) (by decide)) (mm_nc (yne hJ (by decide) (by decide) (by decide)) (mm_nc (yne hJ (by decide) (by decide) (by decide)) (mm_nc (yne hJ (by decide) (by decide) (by decide)) (mm_nc (yne hJ (by decide) (by decide) (by decide)) mm_n0)))))
                      have h0 : M14 (md 0) = some (ob 10 [.ref (md 1), .ref (md 2), .ref (md 3), .ref (md 4), .ref (md 5), .ref (md 6), .int (nI nw), .ref (md 7), .ref (md 8), .int (nI cl), .ref (md 9), .int (nI ll), .int wl, .int sp, .ref (md 10), .int (nI (k + 1)), .ref (md 11), .ref (md 12), .ref (md 13), .ref (md 14), .ref (md 15), .ref (md 16), .int (nI cl)]) := hS.1
                      have h10 : M14 (md 10) = some (ia G 256 (upd fm k ((cof k) &&& nI 255))) := hS.2.1
                      have h11 : M14 (md 11) = some (ia G 32 d) := hS.2.2.1
                      have hF := hF.tr ff (mm_ic 0 rfl (mm_ic 8 rfl (mm_ic 9 rfl (mm_ic 11 rfl (mm_ic 12 rfl mm_i0)))))
                      have hm := mt_s hm (show cof k &&& nI 255 = co k by rw [hco k (by omega)]; exact hN10 k (by omega))
                      refine lv_iinc (v := (nI (k + 1))) (lv' := [(3, .int (nI (k + 1))), (0, .ref (md 0)), (1, .int (nI kd)), (2, .int (nI i))]) hx hb dX9_digest_93 hl (k := 3) rfl (by rw [show Int32.ofInt 1 = nI 1 from by decide]; exact nI_add _ _) (by decide) rfl (fun ls hl => ?_)
                      refine lv_goto (tgt := 75) hx hb dX9_digest_96 (by decide) ?_
                      exact ih (k + 1) _ _ H locs ls (by omega) (by omega) hS h3 h4 h5 h6 h7 h8 h9 h15 h16 hm hF hR (lv_sub hl [1, 2, 3, 0] rfl)
                exact loopB (cl + 1) 0 _ _ _ _ ls (by omega) (by omega) hS h3 h4 h5 h6 h7 h8 h9 h15 h16 (fun j hj => absurd hj (Nat.not_lt_zero j)) hF hR (lv_sub hl [1, 2, 3, 0] rfl)
              · have ck : kd = 1 := (nI_eq (a := kd) (b := 1) (by omega) (by omega)).mp ck
                refine lv_aload_n hx hb dX9_digest_61 rfl (lv_at hl 0 rfl) ?_
                refine mm_callv hA hR (va_runV (As := []) (rest := []) S (c_X9_mac l G M1 _ md _ _ _ _ _ _ _ _ cl p1 h16 hJ hS (by omega) (fun q hq => by rw [hp1 q hq]; exact hN10 q hq)) (cwV 0 S.2.2.2.2 gX9_digest_X9_mac rfl rfl rfl (by decide +kernel) ⟨Nat.le_of_ble_eq_true rfl, Nat.le_of_ble_eq_true rfl⟩) (mm_preV hC hA hR _ h0 rfl) rfl rfl hl.1 rfl (lv_room (Nat.le_of_ble_eq_true rfl)) dX9_digest_62 ⟨Nat.le_of_ble_eq_true rfl, Nat.le_of_ble_eq_true rfl⟩) (fun M16 H locs hp hR => ?_)
                obtain ⟨fb, d2, hS, hd, ff⟩ := hp
                have h3 := ff.at h3 (mm_nc (yne hJ (by decide) (by decide) (by decide)) (mm_nc (yne hJ (by decide) (by decide) (by decide)) (mm_nc (yne hJ (by decide) (by decide) (by decide)) (mm_nc (yne hJ (by decide) (by decide) (by decide)) (mm_nc (yne hJ (by decide) (by decide) (by decide)) (mm_nc (yne hJ (by decide) (by decide) (by decide)) mm_n0))))))
                have h4 := ff.at h4 (mm_nc (yne hJ (by decide) (by decide) (by decide)) (mm_nc (yne hJ (by decide) (by decide) (by decide)) (mm_nc (yne hJ (by decide) (by decide) (by decide)) (mm_nc (yne hJ (by decide) (by decide) (by decide)) (mm_nc (yne hJ (by decide) (by decide) (by decide)) (mm_nc (yne hJ (by decide) (by decide) (by decide)) mm_n0))))))
                have h5 := ff.at h5 (mm_nc (yne hJ (by decide) (by decide) (by decide)) (mm_nc (yne hJ (by decide) (by decide) (by decide)) (mm_nc (yne hJ (by decide) (by decide) (by decide)) (mm_nc (yne hJ (by decide) (by decide) (by decide)) (mm_nc (yne hJ (by decide) (by decide) (by decide)) (mm_nc (yne hJ (by decide) (by decide) (by decide)) mm_n0))))))
                have h6 := ff.at h6 (mm_nc (yne hJ (by decide) (by decide) (by decide)) (mm_nc (yne hJ (by decide) (by decide) (by decide)) (mm_nc (yne hJ (by decide) (by decide) (by decide)) (mm_nc (yne hJ (by decide) (by decide) (by decide)) (mm_nc (yne hJ (by decide) (by decide) (by decide)) (mm_nc (yne hJ (by decide) (by decide) (by decide)) mm_n0))))))
                have h7 := ff.at h7 (mm_nc (yne hJ (by decide) (by decide) (by decide)) (mm_nc (yne hJ (by decide) (by decide) (by decide)) (mm_nc (yne hJ (by decide) (by decide) (by decide)) (mm_nc (yne hJ (by decide) (by decide) (by decide)) (mm_nc (yne hJ (by decide) (by decide) (by decide)) (mm_nc (yne hJ (by decide) (by decide) (by decide)) mm_n0))))))
                have h8 := ff.at h8 (mm_nc (yne hJ (by decide) (by decide) (by decide)) (mm_nc (yne hJ (by decide) (by decide) (by decide)) (mm_nc (yne hJ (by decide) (by decide) (by decide)) (mm_nc (yne hJ (by decide) (by decide) (by decide)) (mm_nc (yne hJ (by decide) (by decide) (by decide)) (mm_nc (yne hJ (by decide) (by decide) (by decide)) mm_n0))))))
                have h9 := ff.at h9 (mm_nc (yne hJ (by decide) (by decide) (by decide)) (mm_nc (yne hJ (by decide) (by decide) (by decide)) (mm_nc (yne hJ (by decide) (by decide) (by decide)) (mm_nc (yne hJ (by decide) (by decide) (by decide)) (mm_nc (yne hJ (by decide) (by decide) (by decide)) (mm_nc (yne hJ (by decide) (by decide) (by decide)) mm_n0))))))
                have h15 := ff.at h15 (mm_nc (yne hJ (by decide) (by decide) (by decide)) (mm_nc (yne hJ (by decide) (by decide) (by decide)) (mm_nc (yne hJ (by decide) (by decide) (by decide)) (mm_nc (yne hJ (by decide) (by decide) (by decide)) (mm_nc (yne hJ (by decide) (by decide) (by decide)) (mm_nc (yne hJ (by decide) (by decide) (by decide)) mm_n0))))))
                have h16 := ff.at h16 (mm_nc (yne hJ (by decide) (by decide) (by decide)) (mm_nc (yne hJ (by decide) (by decide) (by decide)) (mm_nc (yne hJ (by decide) (by decide) (by decide)) (mm_nc (yne hJ (by decide) (by decide) (by decide)) (mm_nc (yne hJ (by decide) (by decide) (by decide)) (mm_nc (yne hJ (by decide) (by decide) (by decide)) mm_n0))))))
                have h0 : M16 (md 0) = some (ob 10 [.ref (md 1), .ref (md 2), .ref (md 3), .ref (md 4), .ref (md 5), .ref (md 6), .int (nI nw), .ref (md 7), .ref (md 8), .int (nI cl), .ref (md 9), .int (nI ll), .int wl, .int sp, .ref (md 10), .int (nI 0), .ref (md 11), .ref (md 12), .ref (md 13), .ref (md 14), .ref (md 15), .ref (md 16), .int (nI cl)]) := hS.1
                have h10 : M16 (md 10) = some (ia G 256 fb) := hS.2.1
                have h11 : M16 (md 11) = some (ia G 32 d2) := hS.2.2.1
                have hF := hF.tr ff (mm_ic 0 rfl (mm_ic 8 rfl (mm_ic 9 rfl (mm_ic 10 rfl (mm_ic 11 rfl (mm_ic 12 rfl mm_i0))))))
                refine lv_goto (tgt := 103) hx hb dX9_digest_65 (by decide) ?_
                refine lv_aload_n hx hb dX9_digest_103 rfl (lv_at hl 0 rfl) ?_
                refine mm_get S hC hR (C := RX9) (T := TX9) (N := 23) (ref := "ForkWatchModel") (v := .ref (md 11)) 16 h0 inRX9 rfl (by decide) (by decide +kernel) (fun _ h9 => h9) rfl dX9_digest_104 ?_
                refine lv_iload_n hx hb dX9_digest_107 rfl (lv_at hl 2 rfl) ?_
                refine mm_iald S hC hR h11 (j := i) (by omega) (by omega) dX9_digest_108 ?_
                exact mm_iret S hr hlocks hR ⟨Or.inr (Or.inr ⟨i, hi9, by rw [e_x, ck], e_y, by rw [hd i hi9, macb_ag hp1]⟩), ⟨⟨_, _, _, hS⟩, ⟨_, h3, hs⟩, ⟨_, h4, hrm⟩, ⟨_, h5, hfs⟩, ⟨_, h6, hfl⟩, ⟨_, h7, hsh⟩, ⟨_, h8, hco⟩, ⟨_, h9, hlr⟩, ⟨_, h15⟩, ⟨_, h16⟩⟩, hF⟩ dX9_digest_109
            · have c6 : ¬ (cl ≤ k) := fun z => c6 ((nI_leI (a := cl) (b := k) (by omega) (by omega)).mpr z)
              refine lv_aload_n hx hb dX9_digest_38 rfl (lv_at hl 0 rfl) ?_
              refine mm_get S hC hR (C := RX9) (T := TX9) (N := 23) (ref := "ForkWatchModel") (v := .ref (md 16)) 21 h0 inRX9 rfl (by decide) (by decide +kernel) (fun _ h9 => h9) rfl dX9_digest_39 ?_
              refine lv_iload_n hx hb dX9_digest_42 rfl (lv_at hl 3 rfl) ?_
              refine lv_aload_n hx hb dX9_digest_43 rfl (lv_at hl 0 rfl) ?_
              refine mm_get S hC hR (C := RX9) (T := TX9) (N := 23) (ref := "ForkWatchModel") (v := .ref (md 8)) 8 h0 inRX9 rfl (by decide) (by decide +kernel) (fun _ h9 => h9) rfl dX9_digest_44 ?_
              refine lv_iload_n hx hb dX9_digest_47 rfl (lv_at hl 3 rfl) ?_
              refine mm_iald S hC hR h8 (j := k) (by omega) (by omega) dX9_digest_48 ?_
              refine mm_iast S hC hR h16 (j := k) (by omega) (by omega) dX9_digest_49 (fun H locs M17 g19 f18 hR => ?_)
              have h3 := f18.at h3 (mm_nc (yne hJ (by decide) (by decide) (by decide)) mm_n0)
              have h4 := f18.at h4 (mm_nc (yne hJ (by decide) (by decide) (by decide)) mm_n0)
              have h5 := f18.at h5 (mm_nc (yne hJ (by decide) (by decide) (by decide)) mm_n0)
              have h6 := f18.at h6 (mm_nc (yne hJ (by decide) (by decide) (by decide)) mm_n0)
              have h7 := f18.at h7 (mm_nc (yne hJ (by decide) (by decide) (by decide)) mm_n0)
              have h8 := f18.at h8 (mm_nc (yne hJ (by decide) (by decide) (by decide)) mm_n0)
              have h9 := f18.at h9 (mm_nc (yne hJ (by decide) (by decide) (by decide)) mm_n0)
              have h15 := f18.at h15 (mm_nc (yne hJ (by decide) (by decide) (by decide)) mm_n0)
              have h0 := f18.at h0 (mm_nc (yne hJ (by decide) (by decide) (by decide)) mm_n0)
              have h10 := f18.at h10 (mm_nc (yne hJ (by decide) (by decide) (by decide)) mm_n0)
              have h11 := f18.at h11 (mm_nc (yne hJ (by decide) (by decide) (by decide)) mm_n0)
              have h16 : M17 (md 16) = some (ia G 64 (upd (va_cpy cof p 0 0 k) k (cof k))) := g19
              have hF := hF.tr f18 (mm_ic 14 rfl mm_i0)
              have hS := hS.out f18 (mm_nc (yne hJ (by decide) (by decide) (by decide)) mm_n0) (mm_nc (yne hJ (by decide) (by decide) (by decide)) mm_n0) (mm_nc (yne hJ (by decide) (by decide) (by decide)) mm_n0) (mm_nc (yne hJ (by decide) (by decide) (by decide)) mm_n0) (mm_nc (yne hJ (by decide) (by decide) (by decide)) mm_n0) (mm_nc (yne hJ (by decide) (by decide) (by decide)) mm_n0) (mm_nc (yne hJ (by decide) (by decide) (by decide)) mm_n0) (mm_nc (yne hJ (by decide) (by decide) (by decide)) mm_n0)
              refine lv_iinc (v := (nI (k + 1))) (lv' := [(3, .int (nI (k + 1))), (0, .ref (md 0)), (1, .int (nI kd)), (2, .int (nI i))]) hx hb dX9_digest_50 hl (k := 3) rfl (by rw [show Int32.ofInt 1 = nI 1 from by decide]; exact nI_add _ _) (by decide) rfl (fun ls hl => ?_)
              refine lv_goto (tgt := 30) hx hb dX9_digest_53 (by decide) ?_
              exact ih (k + 1)  _ H locs ls (by omega) (by omega) hS h3 h4 h5 h6 h7 h8 h9 h15 (cellE h16 (cpy_s0 rfl)) hF hR (lv_sub hl [1, 2, 3, 0] rfl)
        exact loopA (cl + 1) 0  _ _ _ ls (by omega) (by omega) hS h3 h4 h5 h6 h7 h8 h9 h15 (cellE h16 cpy_0.symm) hF hR (lv_sub hl [1, 2, 3, 0] rfl)
      · skip
        refine lv_if_ne (tgt := 20) hx hb dX9_digest_15 (by decide) (fun z => by first | exact absurd z (by decide) | exact absurd (by decide) z) (fun _ => ?_)
        refine lv_iconst (v := -1) hx hb dX9_digest_18 (by decide) ?_
        exact mm_iret S hr hlocks hR ⟨Or.inl ⟨fun q => n_y q.2, rfl⟩, hya0, hF⟩ dX9_digest_19

set_option maxHeartbeats 4000000 in
set_option maxRecDepth 100000 in
/-- split(world) -/
theorem c_X9_split (l : Launch) (G : mm_G) (M : mm_M) (sz : Nat) (md : Nat → Nat) (cl ll : Nat) (wl sp : Int32) (co lr : Nat → Int32) (sh : Nat → Nat) (rem : Nat → Nat → Int32) (nw : Nat) (wst : Nat → Nat → Nat → Int32) (wfc : Nat → Nat → Int32) (wln : Nat → Nat → Nat) (x : Int32)  (hya : yA G M md cl ll wl sp co lr sh rem nw wst wfc wln) (hJ : yI md) (hN : yN cl ll co sh rem nw wst wfc wln) : mm_i l yX9_split wsX9_split ({ frames := 1, cells := 0, slots := 0, locals := 40 } : Room) G ([.ref (md 0), .int x] : List Value) M sz (fun r M' => (r = -1 ∧ ¬ ((∃ j, j < nw ∧ x = nI j) ∧ nw < 6) ∧ yA G M' md cl ll wl sp co lr sh rem nw wst wfc wln ∧ mm_fr [md 0, md 3, md 4, md 5, md 6, md 7, md 8, md 9, md 10, md 11, md 12, md 13, md 14, md 15, md 16] M M') ∨ ∃ j, j < nw ∧ nw < 6 ∧ x = nI j ∧ r = nI nw ∧ yA G M' md cl ll wl sp co lr sh rem (nw + 1) (putW wst nw (cpS (wst j) s0)) (putW wfc nw (va_cpy (wfc j) (fun _ => 0) 0 0 192)) (putW wln nw (wln j)) ∧ mm_fr [md 0, md 3, md 4, md 5, md 6, md 7, md 8, md 9, md 10, md 11, md 12, md 13, md 14, md 15, md 16] M M') := by
  refine mm_enter (cc := cX9_split) (maxL := 3) (ret := (some .int)) _ (by decide) rfl (Nat.le_of_ble_eq_true rfl) ?_
  intro p0 e0 s m0 be0 me0 c0 ls S hr hlocks hname hA hC hR hl
  have hx := S.1
  have hb := S.2.1
  have hl : lv_has ls 3 [(0, .ref (md 0)), (1, .int x)] := hl
  have inRX9 : ∀ w ∈ wsX90, w ∈ wsX9_split := by decide +kernel
  have hF : mm_fr [md 0, md 3, md 4, md 5, md 6, md 7, md 8, md 9, md 10, md 11, md 12, md 13, md 14, md 15, md 16] M M := mm_fr.rf
  obtain ⟨hN1, hN2, hN3, hN4, hN5, hN6, hN7, hN8, hN9, hN10⟩ := hN
  have hya0 := hya
  obtain ⟨⟨v22, f, d, hS⟩, ⟨ss, h3, hs⟩, ⟨rr0, h4, hrm⟩, ⟨fs, h5, hfs⟩, ⟨fl, h6, hfl⟩, ⟨s7, h7, hsh⟩, ⟨cof, h8, hco⟩, ⟨lrf, h9, hlr⟩, ⟨tt, h15⟩, ⟨p, h16⟩⟩ := hya
  have h0 : M (md 0) = some (ob 10 [.ref (md 1), .ref (md 2), .ref (md 3), .ref (md 4), .ref (md 5), .ref (md 6), .int (nI nw), .ref (md 7), .ref (md 8), .int (nI cl), .ref (md 9), .int (nI ll), .int wl, .int sp, .ref (md 10), .int (nI 0), .ref (md 11), .ref (md 12), .ref (md 13), .ref (md 14), .ref (md 15), .ref (md 16), .int v22]) := hS.1
  have h10 : M (md 10) = some (ia G 256 f) := hS.2.1
  have h11 : M (md 11) = some (ia G 32 d) := hS.2.2.1
  refine lv_iload_n hx hb dX9_split_0 rfl (lv_at hl 1 rfl) ?_
  refine lv_aload_n hx hb dX9_split_1 rfl (lv_at hl 0 rfl) ?_
  refine mm_get S hC hR (C := RX9) (T := TX9) (N := 23) (ref := "ForkWatchModel") (v := .int (nI nw)) 6 h0 inRX9 rfl (by decide) (by decide +kernel) (fun _ h9 => h9) rfl dX9_split_2 ?_
  refine mm_calli hA hR (va_runS (As := [.int x, .int (nI nw)]) (rest := []) S (c_X9_isIn l G M _ x nw (by omega)) (va_cwS 2 S.2.2.2.2 gX9_split_X9_isIn rfl rfl rfl (by decide +kernel) ⟨Nat.le_of_ble_eq_true rfl, Nat.le_of_ble_eq_true rfl⟩) (mm_preS hC hA hR _) rfl rfl hl.1 rfl (lv_room (Nat.le_of_ble_eq_true rfl)) dX9_split_5 ⟨Nat.le_of_ble_eq_true rfl, Nat.le_of_ble_eq_true rfl⟩) (fun r20 M21 H locs hp hR => ?_)
  obtain ⟨er, eM⟩ := hp
  subst eM
  rcases er with ⟨er, qg⟩ | ⟨er, n_x⟩ <;> subst er
  · skip
    obtain ⟨j, hj, e_x⟩ := qg
    rw [e_x] at hl
    refine lv_if_eq (tgt := 20) hx hb dX9_split_8 (by decide) (fun z => by first | exact absurd z (by decide) | exact absurd (by decide) z) (fun _ => ?_)
    refine lv_aload_n hx hb dX9_split_11 rfl (lv_at hl 0 rfl) ?_
    refine mm_get S hC hR (C := RX9) (T := TX9) (N := 23) (ref := "ForkWatchModel") (v := .int (nI nw)) 6 h0 inRX9 rfl (by decide) (by decide +kernel) (fun _ h9 => h9) rfl dX9_split_12 ?_
    refine lv_bipush (v := nI 6) hx hb dX9_split_15 (by decide) ?_
    refine lv_icmp_ne (tgt := 22) hx hb dX9_split_17 (by decide) (fun c6 => ?_) (fun c6 => ?_)
    · have c6 : nw ≠ 6 := fun z => c6 (congrArg nI z)
      have hw6 : nw < 6 := by omega
      refine lv_iconst (v := nI 0) hx hb dX9_split_22 (by decide) ?_
      refine lv_istore_n (lv' := [(2, .int (nI 0)), (0, .ref (md 0)), (1, .int (nI j))]) hx hb dX9_split_23 rfl hl (by decide) rfl (fun ls hl => ?_)
      have loopA : ∀ (n : Nat) (i : Nat) (s3 : Nat → Int32) (M1 : mm_M) (H : Heap) (locs : List Loc) (ls : Array Slot), (336 < i + n) → (i ≤ 336) → (yS G M1 md (nI nw) (nI cl) (nI ll) wl sp v22 0 f d) → (M1 (md 3) = some (ia G 2016 s3)) → (M1 (md 4) = some (ia G 336 rr0)) → (M1 (md 5) = some (ia G 1152 fs)) → (M1 (md 6) = some (ia G 96 fl)) → (M1 (md 7) = some (ia G 4 s7)) → (M1 (md 8) = some (ia G 64 cof)) → (M1 (md 9) = some (ia G 12 lrf)) → (M1 (md 15) = some (ia G 512 tt)) → (M1 (md 16) = some (ia G 64 p)) → (∀ t, t < i → s3 (336 * nw + t) = ss (336 * j + t)) → (∀ t, t < 336 * nw → s3 t = ss t) → (mm_fr [md 0, md 3, md 4, md 5, md 6, md 7, md 8, md 9, md 10, md 11, md 12, md 13, md 14, md 15, md 16] M M1) → mm_R G s (mm_A M sz) M1 H locs → lv_has ls 3 [(0, .ref (md 0)), (1, .int (nI j)), (2, .int (nI i))] → W p0 l e0 ({ frames := 1, cells := 0, slots := 0, locals := 40 } : Room) s m0 ([.ref (md 0), .int x] : List Value).toArray be0 me0 c0 H locs 0 0 (MQ be0 (va_Qi (fun r M' => (r = -1 ∧ ¬ ((∃ j, j < nw ∧ x = nI j) ∧ nw < 6) ∧ yA G M' md cl ll wl sp co lr sh rem nw wst wfc wln ∧ mm_fr [md 0, md 3, md 4, md 5, md 6, md 7, md 8, md 9, md 10, md 11, md 12, md 13, md 14, md 15, md 16] M M') ∨ ∃ j, j < nw ∧ nw < 6 ∧ x = nI j ∧ r = nI nw ∧ yA G M' md cl ll wl sp co lr sh rem (nw + 1) (putW wst nw (cpS (wst j) s0)) (putW wfc nw (va_cpy (wfc j) (fun _ => 0) 0 0 192)) (putW wln nw (wln j)) ∧ mm_fr [md 0, md 3, md 4, md 5, md 6, md 7, md 8, md 9, md 10, md 11, md 12, md 13, md 14, md 15, md 16] M M') (fun M' t => mm_H G (mm_A M sz) M' t.heap) (mm_A M sz)) ([.ref (md 0), .int x] : List Value).toArray s 0 0 (mm_A M sz)) (F0 m0 24 ls []) := by
        intro n
        induction n with
        | zero =>
          intro i s3 M1 H locs ls hn hi hS h3 h4 h5 h6 h7 h8 h9 h15 h16 q1s3 q2s3 hF hR hl
          omega
        | succ n ih =>
          intro i s3 M1 H locs ls hn hi hS h3 h4 h5 h6 h7 h8 h9 h15 h16 q1s3 q2s3 hF hR hl
          have h0 : M1 (md 0) = some (ob 10 [.ref (md 1), .ref (md 2), .ref (md 3), .ref (md 4), .ref (md 5), .ref (md 6), .int (nI nw), .ref (md 7), .ref (md 8), .int (nI cl), .ref (md 9), .int (nI ll), .int wl, .int sp, .ref (md 10), .int (nI 0), .ref (md 11), .ref (md 12), .ref (md 13), .ref (md 14), .ref (md 15), .ref (md 16), .int v22]) := hS.1
          have h10 : M1 (md 10) = some (ia G 256 f) := hS.2.1
          have h11 : M1 (md 11) = some (ia G 32 d) := hS.2.2.1
          refine lv_iload_n hx hb dX9_split_24 rfl (lv_at hl 2 rfl) ?_
          refine lv_sipush (v := nI 336) hx hb dX9_split_25 (by decide) ?_
          refine lv_icmp_ge (tgt := 64) hx hb dX9_split_28 (by decide) (fun c22 => ?_) (fun c22 => ?_)
          · have c22 : 336 ≤ i := (nI_leI (a := 336) (b := i) (by omega) (by omega)).mp c22
            have e4 : 336 = i := by omega
            subst e4
            refine lv_iconst (v := nI 0) hx hb dX9_split_64 (by decide) ?_
            refine lv_istore_n (lv' := [(2, .int (nI 0)), (0, .ref (md 0)), (1, .int (nI j))]) hx hb dX9_split_65 rfl hl (by decide) rfl (fun ls hl => ?_)
            have loopB : ∀ (n : Nat) (i : Nat) (s5 : Nat → Int32) (M1 : mm_M) (H : Heap) (locs : List Loc) (ls : Array Slot), (192 < i + n) → (i ≤ 192) → (yS G M1 md (nI nw) (nI cl) (nI ll) wl sp v22 0 f d) → (M1 (md 3) = some (ia G 2016 s3)) → (M1 (md 4) = some (ia G 336 rr0)) → (M1 (md 5) = some (ia G 1152 s5)) → (M1 (md 6) = some (ia G 96 fl)) → (M1 (md 7) = some (ia G 4 s7)) → (M1 (md 8) = some (ia G 64 cof)) → (M1 (md 9) = some (ia G 12 lrf)) → (M1 (md 15) = some (ia G 512 tt)) → (M1 (md 16) = some (ia G 64 p)) → (∀ t, t < i → s5 (192 * nw + t) = fs (192 * j + t)) → (∀ t, t < 192 * nw → s5 t = fs t) → (mm_fr [md 0, md 3, md 4, md 5, md 6, md 7, md 8, md 9, md 10, md 11, md 12, md 13, md 14, md 15, md 16] M M1) → mm_R G s (mm_A M sz) M1 H locs → lv_has ls 3 [(0, .ref (md 0)), (1, .int (nI j)), (2, .int (nI i))] → W p0 l e0 ({ frames := 1, cells := 0, slots := 0, locals := 40 } : Room) s m0 ([.ref (md 0), .int x] : List Value).toArray be0 me0 c0 H locs 0 0 (MQ be0 (va_Qi (fun r M' => (r = -1 ∧ ¬ ((∃ j, j < nw ∧ x = nI j) ∧ nw < 6) ∧ yA G M' md cl ll wl sp co lr sh rem nw wst wfc wln ∧ mm_fr [md 0, md 3, md 4, md 5, md 6, md 7, md 8, md 9, md 10, md 11, md 12, md 13, md 14, md 15, md 16] M M') ∨ ∃ j, j < nw ∧ nw < 6 ∧ x = nI j ∧ r = nI nw ∧ yA G M' md cl ll wl sp co lr sh rem (nw + 1) (putW wst nw (cpS (wst j) s0)) (putW wfc nw (va_cpy (wfc j) (fun _ => 0) 0 0 192)) (putW wln nw (wln j)) ∧ mm_fr [md 0, md 3, md 4, md 5, md 6, md 7, md 8, md 9, md 10, md 11, md 12, md 13, md 14, md 15, md 16] M M') (fun M' t => mm_H G (mm_A M sz) M' t.heap) (mm_A M sz)) ([.ref (md 0), .int x] : List Value).toArray s 0 0 (mm_A M sz)) (F0 m0 66 ls []) := by
              intro n
              induction n with
              | zero =>
                intro i s5 M1 H locs ls hn hi hS h3 h4 h5 h6 h7 h8 h9 h15 h16 q1s5 q2s5 hF hR hl
                omega
              | succ n ih =>
                intro i s5 M1 H locs ls hn hi hS h3 h4 h5 h6 h7 h8 h9 h15 h16 q1s5 q2s5 hF hR hl
                have h0 : M1 (md 0) = some (ob 10 [.ref (md 1), .ref (md 2), .ref (md 3), .ref (md 4), .ref (md 5), .ref (md 6), .int (nI nw), .ref (md 7), .ref (md 8), .int (nI cl), .ref (md 9), .int (nI ll), .int wl, .int sp, .ref (md 10), .int (nI 0), .ref (md 11), .ref (md 12), .ref (md 13), .ref (md 14), .ref (md 15), .ref (md 16), .int v22]) := hS.1
                have h10 : M1 (md 10) = some (ia G 256 f) := hS.2.1
                have h11 : M1 (md 11) = some (ia G 32 d) := hS.2.2.1
                refine lv_iload_n hx hb dX9_split_66 rfl (lv_at hl 2 rfl) ?_
                refine lv_sipush (v := nI 192) hx hb dX9_split_67 (by decide) ?_
                refine lv_icmp_ge (tgt := 106) hx hb dX9_split_70 (by decide) (fun c26 => ?_) (fun c26 => ?_)
                · have c26 : 192 ≤ i := (nI_leI (a := 192) (b := i) (by omega) (by omega)).mp c26
                  have e4 : 192 = i := by omega
                  subst e4
                  refine lv_iconst (v := nI 0) hx hb dX9_split_106 (by decide) ?_
                  refine lv_istore_n (lv' := [(2, .int (nI 0)), (0, .ref (md 0)), (1, .int (nI j))]) hx hb dX9_split_107 rfl hl (by decide) rfl (fun ls hl => ?_)
                  have loopC : ∀ (n : Nat) (i : Nat) (s6 : Nat → Int32) (M1 : mm_M) (H : Heap) (locs : List Loc) (ls : Array Slot), (16 < i + n) → (i ≤ 16) → (yS G M1 md (nI nw) (nI cl) (nI ll) wl sp v22 0 f d) → (M1 (md 3) = some (ia G 2016 s3)) → (M1 (md 4) = some (ia G 336 rr0)) → (M1 (md 5) = some (ia G 1152 s5)) → (M1 (md 6) = some (ia G 96 s6)) → (M1 (md 7) = some (ia G 4 s7)) → (M1 (md 8) = some (ia G 64 cof)) → (M1 (md 9) = some (ia G 12 lrf)) → (M1 (md 15) = some (ia G 512 tt)) → (M1 (md 16) = some (ia G 64 p)) → (∀ t, t < i → s6 (16 * nw + t) = fl (16 * j + t)) → (∀ t, t < 16 * nw → s6 t = fl t) → (mm_fr [md 0, md 3, md 4, md 5, md 6, md 7, md 8, md 9, md 10, md 11, md 12, md 13, md 14, md 15, md 16] M M1) → mm_R G s (mm_A M sz) M1 H locs → lv_has ls 3 [(0, .ref (md 0)), (1, .int (nI j)), (2, .int (nI i))] → W p0 l e0 ({ frames := 1, cells := 0, slots := 0, locals := 40 } : Room) s m0 ([.ref (md 0), .int x] : List Value).toArray be0 me0 c0 H locs 0 0 (MQ be0 (va_Qi (fun r M' => (r = -1 ∧ ¬ ((∃ j, j < nw ∧ x = nI j) ∧ nw < 6) ∧ yA G M' md cl ll wl sp co lr sh rem nw wst wfc wln ∧ mm_fr [md 0, md 3, md 4, md 5, md 6, md 7, md 8, md 9, md 10, md 11, md 12, md 13, md 14, md 15, md 16] M M') ∨ ∃ j, j < nw ∧ nw < 6 ∧ x = nI j ∧ r = nI nw ∧ yA G M' md cl ll wl sp co lr sh rem (nw + 1) (putW wst nw (cpS (wst j) s0)) (putW wfc nw (va_cpy (wfc j) (fun _ => 0) 0 0 192)) (putW wln nw (wln j)) ∧ mm_fr [md 0, md 3, md 4, md 5, md 6, md 7, md 8, md 9, md 10, md 11, md 12, md 13, md 14, md 15, md 16] M M') (fun M' t => mm_H G (mm_A M sz) M' t.heap) (mm_A M sz)) ([.ref (md 0), .int x] : List Value).toArray s 0 0 (mm_A M sz)) (F0 m0 108 ls []) := by
                    intro n
                    induction n with
                    | zero =>
                      intro i s6 M1 H locs ls hn hi hS h3 h4 h5 h6 h7 h8 h9 h15 h16 q1s6 q2s6 hF hR hl
                      omega
                    | succ n ih =>
                      intro i s6 M1 H locs ls hn hi hS h3 h4 h5 h6 h7 h8 h9 h15 h16 q1s6 q2s6 hF hR hl
                      have h0 : M1 (md 0) = some (ob 10 [.ref (md 1), .ref (md 2), .ref (md 3), .ref (md 4), .ref (md 5), .ref (md 6), .int (nI nw), .ref (md 7), .ref (md 8), .int (nI cl), .ref (md 9), .int (nI ll), .int wl, .int sp, .ref (md 10), .int (nI 0), .ref (md 11), .ref (md 12), .ref (md 13), .ref (md 14), .ref (md 15), .ref (md 16), .int v22]) := hS.1
                      have h10 : M1 (md 10) = some (ia G 256 f) := hS.2.1
                      have h11 : M1 (md 11) = some (ia G 32 d) := hS.2.2.1
                      refine lv_iload_n hx hb dX9_split_108 rfl (lv_at hl 2 rfl) ?_
                      refine lv_bipush (v := nI 16) hx hb dX9_split_109 (by decide) ?_
                      refine lv_icmp_ge (tgt := 145) hx hb dX9_split_111 (by decide) (fun c30 => ?_) (fun c30 => ?_)
                      · have c30 : 16 ≤ i := (nI_leI (a := 16) (b := i) (by omega) (by omega)).mp c30
                        have e4 : 16 = i := by omega
                        subst e4
                        refine lv_aload_n hx hb dX9_split_145 rfl (lv_at hl 0 rfl) ?_
                        refine lv_dup hx hb dX9_split_146 rfl ?_
                        refine mm_get S hC hR (C := RX9) (T := TX9) (N := 23) (ref := "ForkWatchModel") (v := .int (nI nw)) 6 h0 inRX9 rfl (by decide) (by decide +kernel) (fun _ h9 => h9) rfl dX9_split_147 ?_
                        refine lv_iconst (v := nI 1) hx hb dX9_split_150 (by decide) ?_
                        refine lv_iadd hx hb dX9_split_151 ?_
                        refine mm_eqi (nI_add _ _) ?_
                        refine mm_put S hC hR (C := RX9) (T := TX9) (N := 23) (ref := "ForkWatchModel") 6 h0 inRX9 rfl tyX9_ok nmX9 (by decide) (by decide +kernel) (fun _ h9 => h9) rfl rfl rfl (Nat.le_of_ble_eq_true rfl) dX9_split_152 (fun H locs M34 g36 f35 hR => ?_)
                        have h3 := f35.at h3 (mm_nc (yne hJ (by decide) (by decide) (by decide)) mm_n0)
                        have h4 := f35.at h4 (mm_nc (yne hJ (by decide) (by decide) (by decide)) mm_n0)
                        have h5 := f35.at h5 (mm_nc (yne hJ (by decide) (by decide) (by decide)) mm_n0)
                        have h6 := f35.at h6 (mm_nc (yne hJ (by decide) (by decide) (by decide)) mm_n0)
                        have h7 := f35.at h7 (mm_nc (yne hJ (by decide) (by decide) (by decide)) mm_n0)
                        have h8 := f35.at h8 (mm_nc (yne hJ (by decide) (by decide) (by decide)) mm_n0)
                        have h9 := f35.at h9 (mm_nc (yne hJ (by decide) (by decide) (by decide)) mm_n0)
                        have h15 := f35.at h15 (mm_nc (yne hJ (by decide) (by decide) (by decide)) mm_n0)
                        have h16 := f35.at h16 (mm_nc (yne hJ (by decide) (by decide) (by decide)) mm_n0)
                        have h10 := f35.at h10 (mm_nc (yne hJ (by decide) (by decide) (by decide)) mm_n0)
                        have h11 := f35.at h11 (mm_nc (yne hJ (by decide) (by decide) (by decide)) mm_n0)
                        have h0 : M34 (md 0) = some (ob 10 [.ref (md 1), .ref (md 2), .ref (md 3), .ref (md 4), .ref (md 5), .ref (md 6), .int (nI (nw + 1)), .ref (md 7), .ref (md 8), .int (nI cl), .ref (md 9), .int (nI ll), .int wl, .int sp, .ref (md 10), .int (nI 0), .ref (md 11), .ref (md 12), .ref (md 13), .ref (md 14), .ref (md 15), .ref (md 16), .int v22]) := g36
                        have hF := hF.tr f35 (mm_ic 0 rfl mm_i0)
                        have hS := hS.ob hJ f35 h0
                        refine lv_aload_n hx hb dX9_split_155 rfl (lv_at hl 0 rfl) ?_
                        refine mm_get S hC hR (C := RX9) (T := TX9) (N := 23) (ref := "ForkWatchModel") (v := .int (nI (nw + 1))) 6 h0 inRX9 rfl (by decide) (by decide +kernel) (fun _ h9 => h9) rfl dX9_split_156 ?_
                        refine lv_iconst (v := nI 1) hx hb dX9_split_159 (by decide) ?_
                        refine lv_isub hx hb dX9_split_160 ?_
                        refine mm_eqi (pk_sub (by omega)) ?_
                        refine mm_eqi (congrArg nI (show (nw + 1) - 1 = nw by omega)) ?_
                        have z3 : ∀ j', j' < nw + 1 → ∀ c, c < 4 → ∀ i, i < 84 → s3 (84 * (4 * j' + c) + i) = putW wst nw (cpS (wst j) s0) j' c i := fun j' hj' c hc i hi => by
                          by_cases e : j' = nw
                          · rw [e, putW_s, show 84 * (4 * nw + c) + i = 336 * nw + (84 * c + i) by omega, q1s3 _ (by omega), show 336 * j + (84 * c + i) = 84 * (4 * j + c) + i by omega, hs j hj c hc i hi]
                            unfold cpS
                            rw [cpy_in (by omega) (by omega), show 0 + (i - 0) = i by omega]
                          · rw [putW_n e, q2s3 _ (by omega), hs j' (by omega) c hc i hi]
                        have z5 : ∀ j', j' < nw + 1 → ∀ x, x < 192 → s5 (192 * j' + x) = putW wfc nw (va_cpy (wfc j) (fun _ => 0) 0 0 192) j' x := fun j' hj' x hx => by
                          by_cases e : j' = nw
                          · rw [e, putW_s, q1s5 _ (by omega), hfs j hj x hx, cpy_in (by omega) (by omega), show 0 + (x - 0) = x by omega]
                          · rw [putW_n e, q2s5 _ (by omega), hfs j' (by omega) x hx]
                        have z6 : ∀ j', j' < nw + 1 → ∀ x, x < 16 → s6 (16 * j' + x) = nI (putW wln nw (wln j) j' x) := fun j' hj' x hx => by
                          by_cases e : j' = nw
                          · rw [e, putW_s, q1s6 _ (by omega), hfl j hj x hx]
                          · rw [putW_n e, q2s6 _ (by omega), hfl j' (by omega) x hx]
                        exact mm_iret S hr hlocks hR (Or.inr ⟨j, hj, hw6, e_x, rfl, ⟨⟨_, _, _, hS⟩, ⟨_, h3, z3⟩, ⟨_, h4, hrm⟩, ⟨_, h5, z5⟩, ⟨_, h6, z6⟩, ⟨_, h7, hsh⟩, ⟨_, h8, hco⟩, ⟨_, h9, hlr⟩, ⟨_, h15⟩, ⟨_, h16⟩⟩, hF⟩) dX9_split_161
                      · have c30 : ¬ (16 ≤ i) := fun z => c30 ((nI_leI (a := 16) (b := i) (by omega) (by omega)).mpr z)
                        refine lv_aload_n hx hb dX9_split_114 rfl (lv_at hl 0 rfl) ?_
                        refine mm_get S hC hR (C := RX9) (T := TX9) (N := 23) (ref := "ForkWatchModel") (v := .ref (md 6)) 5 h0 inRX9 rfl (by decide) (by decide +kernel) (fun _ h9 => h9) rfl dX9_split_115 ?_
                        refine lv_bipush (v := nI 16) hx hb dX9_split_118 (by decide) ?_
                        refine lv_aload_n hx hb dX9_split_120 rfl (lv_at hl 0 rfl) ?_
                        refine mm_get S hC hR (C := RX9) (T := TX9) (N := 23) (ref := "ForkWatchModel") (v := .int (nI nw)) 6 h0 inRX9 rfl (by decide) (by decide +kernel) (fun _ h9 => h9) rfl dX9_split_121 ?_
                        refine lv_imul hx hb dX9_split_124 ?_
                        refine mm_eqi (pk_mul _ _) ?_
                        refine lv_iload_n hx hb dX9_split_125 rfl (lv_at hl 2 rfl) ?_
                        refine lv_iadd hx hb dX9_split_126 ?_
                        refine mm_eqi (nI_add _ _) ?_
                        refine lv_aload_n hx hb dX9_split_127 rfl (lv_at hl 0 rfl) ?_
                        refine mm_get S hC hR (C := RX9) (T := TX9) (N := 23) (ref := "ForkWatchModel") (v := .ref (md 6)) 5 h0 inRX9 rfl (by decide) (by decide +kernel) (fun _ h9 => h9) rfl dX9_split_128 ?_
                        refine lv_bipush (v := nI 16) hx hb dX9_split_131 (by decide) ?_
                        refine lv_iload_n hx hb dX9_split_133 rfl (lv_at hl 1 rfl) ?_
                        refine lv_imul hx hb dX9_split_134 ?_
                        refine mm_eqi (pk_mul _ _) ?_
                        refine lv_iload_n hx hb dX9_split_135 rfl (lv_at hl 2 rfl) ?_
                        refine lv_iadd hx hb dX9_split_136 ?_
                        refine mm_eqi (nI_add _ _) ?_
                        refine mm_iald S hC hR h6 (j := (16 * j + i)) (by omega) (by omega) dX9_split_137 ?_
                        refine mm_iast S hC hR h6 (j := (16 * nw + i)) (by omega) (by omega) dX9_split_138 (fun H locs M31 g33 f32 hR => ?_)
                        have h3 := f32.at h3 (mm_nc (yne hJ (by decide) (by decide) (by decide)) mm_n0)
                        have h4 := f32.at h4 (mm_nc (yne hJ (by decide) (by decide) (by decide)) mm_n0)
                        have h5 := f32.at h5 (mm_nc (yne hJ (by decide) (by decide) (by decide)) mm_n0)
                        have h7 := f32.at h7 (mm_nc (yne hJ (by decide) (by decide) (by decide)) mm_n0)
                        have h8 := f32.at h8 (mm_nc (yne hJ (by decide) (by decide) (by decide)) mm_n0)
                        have h9 := f32.at h9 (mm_nc (yne hJ (by decide) (by decide) (by decide)) mm_n0)
                        have h15 := f32.at h15 (mm_nc (yne hJ (by decide) (by decide) (by decide)) mm_n0)
                        have h16 := f32.at h16 (mm_nc (yne hJ (by decide) (by decide) (by decide)) mm_n0)
                        have h0 := f32.at h0 (mm_nc (yne hJ (by decide) (by decide) (by decide)) mm_n0)
                        have h10 := f32.at h10 (mm_nc (yne hJ (by decide) (by decide) (by decide)) mm_n0)
                        have h11 := f32.at h11 (mm_nc (yne hJ (by decide) (by decide) (by decide)) mm_n0)
                        have h6 : M31 (md 6) = some (ia G 96 (upd s6 (16 * nw + i) (s6 (16 * j + i)))) := g33
                        have hF := hF.tr f32 (mm_ic 4 rfl mm_i0)
                        have hS := hS.out f32 (mm_nc (yne hJ (by decide) (by decide) (by decide)) mm_n0) (mm_nc (yne hJ (by decide) (by decide) (by decide)) mm_n0) (mm_nc (yne hJ (by decide) (by decide) (by decide)) mm_n0) (mm_nc (yne hJ (by decide) (by decide) (by decide)) mm_n0) (mm_nc (yne hJ (by decide) (by decide) (by decide)) mm_n0) (mm_nc (yne hJ (by decide) (by decide) (by decide)) mm_n0) (mm_nc (yne hJ (by decide) (by decide) (by decide)) mm_n0) (mm_nc (yne hJ (by decide) (by decide) (by decide)) mm_n0)
                        refine lv_iinc (v := (nI (i + 1))) (lv' := [(2, .int (nI (i + 1))), (0, .ref (md 0)), (1, .int (nI j))]) hx hb dX9_split_139 hl (k := 2) rfl (by rw [show Int32.ofInt 1 = nI 1 from by decide]; exact nI_add _ _) (by decide) rfl (fun ls hl => ?_)
                        refine lv_goto (tgt := 108) hx hb dX9_split_142 (by decide) ?_
                        have e8 : s6 (16 * j + i) = fl (16 * j + i) := q2s6 _ (by omega)
                        exact ih (i + 1) _ _ H locs ls (by omega) (by omega) hS h3 h4 h5 h6 h7 h8 h9 h15 h16 (fun t ht => by unfold upd; by_cases e : t = i; (rw [if_pos (by omega), e8, e]); (rw [if_neg (by omega)]; exact q1s6 t (by omega))) (fun t ht => by unfold upd; rw [if_neg (by omega)]; exact q2s6 t ht) hF hR (lv_sub hl [1, 2, 0] rfl)
                  exact loopC (16 + 1) 0 _ _ _ _ ls (by omega) (by omega) hS h3 h4 h5 h6 h7 h8 h9 h15 h16 (fun j hj => absurd hj (Nat.not_lt_zero j)) (fun t _ => rfl) hF hR (lv_sub hl [1, 2, 0] rfl)
                · have c26 : ¬ (192 ≤ i) := fun z => c26 ((nI_leI (a := 192) (b := i) (by omega) (by omega)).mpr z)
                  refine lv_aload_n hx hb dX9_split_73 rfl (lv_at hl 0 rfl) ?_
                  refine mm_get S hC hR (C := RX9) (T := TX9) (N := 23) (ref := "ForkWatchModel") (v := .ref (md 5)) 4 h0 inRX9 rfl (by decide) (by decide +kernel) (fun _ h9 => h9) rfl dX9_split_74 ?_
                  refine lv_sipush (v := nI 192) hx hb dX9_split_77 (by decide) ?_
                  refine lv_aload_n hx hb dX9_split_80 rfl (lv_at hl 0 rfl) ?_
                  refine mm_get S hC hR (C := RX9) (T := TX9) (N := 23) (ref := "ForkWatchModel") (v := .int (nI nw)) 6 h0 inRX9 rfl (by decide) (by decide +kernel) (fun _ h9 => h9) rfl dX9_split_81 ?_
                  refine lv_imul hx hb dX9_split_84 ?_
                  refine mm_eqi (pk_mul _ _) ?_
                  refine lv_iload_n hx hb dX9_split_85 rfl (lv_at hl 2 rfl) ?_
                  refine lv_iadd hx hb dX9_split_86 ?_
                  refine mm_eqi (nI_add _ _) ?_
                  refine lv_aload_n hx hb dX9_split_87 rfl (lv_at hl 0 rfl) ?_
                  refine mm_get S hC hR (C := RX9) (T := TX9) (N := 23) (ref := "ForkWatchModel") (v := .ref (md 5)) 4 h0 inRX9 rfl (by decide) (by decide +kernel) (fun _ h9 => h9) rfl dX9_split_88 ?_
                  refine lv_sipush (v := nI 192) hx hb dX9_split_91 (by decide) ?_
                  refine lv_iload_n hx hb dX9_split_94 rfl (lv_at hl 1 rfl) ?_
                  refine lv_imul hx hb dX9_split_95 ?_
                  refine mm_eqi (pk_mul _ _) ?_
                  refine lv_iload_n hx hb dX9_split_96 rfl (lv_at hl 2 rfl) ?_
                  refine lv_iadd hx hb dX9_split_97 ?_
                  refine mm_eqi (nI_add _ _) ?_
                  refine mm_iald S hC hR h5 (j := (192 * j + i)) (by omega) (by omega) dX9_split_98 ?_
                  refine mm_iast S hC hR h5 (j := (192 * nw + i)) (by omega) (by omega) dX9_split_99 (fun H locs M27 g29 f28 hR => ?_)
                  have h3 := f28.at h3 (mm_nc (yne hJ (by decide) (by decide) (by decide)) mm_n0)
                  have h4 := f28.at h4 (mm_nc (yne hJ (by decide) (by decide) (by decide)) mm_n0)
                  have h6 := f28.at h6 (mm_nc (yne hJ (by decide) (by decide) (by decide)) mm_n0)
                  have h7 := f28.at h7 (mm_nc (yne hJ (by decide) (by decide) (by decide)) mm_n0)
                  have h8 := f28.at h8 (mm_nc (yne hJ (by decide) (by decide) (by decide)) mm_n0)
                  have h9 := f28.at h9 (mm_nc (yne hJ (by decide) (by decide) (by decide)) mm_n0)
                  have h15 := f28.at h15 (mm_nc (yne hJ (by decide) (by decide) (by decide)) mm_n0)
                  have h16 := f28.at h16 (mm_nc (yne hJ (by decide) (by decide) (by decide)) mm_n0)
                  have h0 := f28.at h0 (mm_nc (yne hJ (by decide) (by decide) (by decide)) mm_n0)
                  have h10 := f28.at h10 (mm_nc (yne hJ (by decide) (by decide) (by decide)) mm_n0)
                  have h11 := f28.at h11 (mm_nc (yne hJ (by decide) (by decide) (by decide)) mm_n0)
                  have h5 : M27 (md 5) = some (ia G 1152 (upd s5 (192 * nw + i) (s5 (192 * j + i)))) := g29
                  have hF := hF.tr f28 (mm_ic 3 rfl mm_i0)
                  have hS := hS.out f28 (mm_nc (yne hJ (by decide) (by decide) (by decide)) mm_n0) (mm_nc (yne hJ (by decide) (by decide) (by decide)) mm_n0) (mm_nc (yne hJ (by decide) (by decide) (by decide)) mm_n0) (mm_nc (yne hJ (by decide) (by decide) (by decide)) mm_n0) (mm_nc (yne hJ (by decide) (by decide) (by decide)) mm_n0) (mm_nc (yne hJ (by decide) (by decide) (by decide)) mm_n0) (mm_nc (yne hJ (by decide) (by decide) (by decide)) mm_n0) (mm_nc (yne hJ (by decide) (by decide) (by decide)) mm_n0)
                  refine lv_iinc (v := (nI (i + 1))) (lv' := [(2, .int (nI (i + 1))), (0, .ref (md 0)), (1, .int (nI j))]) hx hb dX9_split_100 hl (k := 2) rfl (by rw [show Int32.ofInt 1 = nI 1 from by decide]; exact nI_add _ _) (by decide) rfl (fun ls hl => ?_)
                  refine lv_goto (tgt := 66) hx hb dX9_split_103 (by decide) ?_
                  have e8 : s5 (192 * j + i) = fs (192 * j + i) := q2s5 _ (by omega)
                  exact ih (i + 1) _ _ H locs ls (by omega) (by omega) hS h3 h4 h5 h6 h7 h8 h9 h15 h16 (fun t ht => by unfold upd; by_cases e : t = i; (rw [if_pos (by omega), e8, e]); (rw [if_neg (by omega)]; exact q1s5 t (by omega))) (fun t ht => by unfold upd; rw [if_neg (by omega)]; exact q2s5 t ht) hF hR (lv_sub hl [1, 2, 0] rfl)
            exact loopB (192 + 1) 0 _ _ _ _ ls (by omega) (by omega) hS h3 h4 h5 h6 h7 h8 h9 h15 h16 (fun j hj => absurd hj (Nat.not_lt_zero j)) (fun t _ => rfl) hF hR (lv_sub hl [1, 2, 0] rfl)
          · have c22 : ¬ (336 ≤ i) := fun z => c22 ((nI_leI (a := 336) (b := i) (by omega) (by omega)).mpr z)
            refine lv_aload_n hx hb dX9_split_31 rfl (lv_at hl 0 rfl) ?_
            refine mm_get S hC hR (C := RX9) (T := TX9) (N := 23) (ref := "ForkWatchModel") (v := .ref (md 3)) 2 h0 inRX9 rfl (by decide) (by decide +kernel) (fun _ h9 => h9) rfl dX9_split_32 ?_
            refine lv_sipush (v := nI 336) hx hb dX9_split_35 (by decide) ?_
            refine lv_aload_n hx hb dX9_split_38 rfl (lv_at hl 0 rfl) ?_
            refine mm_get S hC hR (C := RX9) (T := TX9) (N := 23) (ref := "ForkWatchModel") (v := .int (nI nw)) 6 h0 inRX9 rfl (by decide) (by decide +kernel) (fun _ h9 => h9) rfl dX9_split_39 ?_
            refine lv_imul hx hb dX9_split_42 ?_
            refine mm_eqi (pk_mul _ _) ?_
            refine lv_iload_n hx hb dX9_split_43 rfl (lv_at hl 2 rfl) ?_
            refine lv_iadd hx hb dX9_split_44 ?_
            refine mm_eqi (nI_add _ _) ?_
            refine lv_aload_n hx hb dX9_split_45 rfl (lv_at hl 0 rfl) ?_
            refine mm_get S hC hR (C := RX9) (T := TX9) (N := 23) (ref := "ForkWatchModel") (v := .ref (md 3)) 2 h0 inRX9 rfl (by decide) (by decide +kernel) (fun _ h9 => h9) rfl dX9_split_46 ?_
            refine lv_sipush (v := nI 336) hx hb dX9_split_49 (by decide) ?_
            refine lv_iload_n hx hb dX9_split_52 rfl (lv_at hl 1 rfl) ?_
            refine lv_imul hx hb dX9_split_53 ?_
            refine mm_eqi (pk_mul _ _) ?_
            refine lv_iload_n hx hb dX9_split_54 rfl (lv_at hl 2 rfl) ?_
            refine lv_iadd hx hb dX9_split_55 ?_
            refine mm_eqi (nI_add _ _) ?_
            refine mm_iald S hC hR h3 (j := (336 * j + i)) (by omega) (by omega) dX9_split_56 ?_
            refine mm_iast S hC hR h3 (j := (336 * nw + i)) (by omega) (by omega) dX9_split_57 (fun H locs M23 g25 f24 hR => ?_)
            have h4 := f24.at h4 (mm_nc (yne hJ (by decide) (by decide) (by decide)) mm_n0)
            have h5 := f24.at h5 (mm_nc (yne hJ (by decide) (by decide) (by decide)) mm_n0)
            have h6 := f24.at h6 (mm_nc (yne hJ (by decide) (by decide) (by decide)) mm_n0)
            have h7 := f24.at h7 (mm_nc (yne hJ (by decide) (by decide) (by decide)) mm_n0)
            have h8 := f24.at h8 (mm_nc (yne hJ (by decide) (by decide) (by decide)) mm_n0)
            have h9 := f24.at h9 (mm_nc (yne hJ (by decide) (by decide) (by decide)) mm_n0)
            have h15 := f24.at h15 (mm_nc (yne hJ (by decide) (by decide) (by decide)) mm_n0)
            have h16 := f24.at h16 (mm_nc (yne hJ (by decide) (by decide) (by decide)) mm_n0)
            have h0 := f24.at h0 (mm_nc (yne hJ (by decide) (by decide) (by decide)) mm_n0)
            have h10 := f24.at h10 (mm_nc (yne hJ (by decide) (by decide) (by decide)) mm_n0)
            have h11 := f24.at h11 (mm_nc (yne hJ (by decide) (by decide) (by decide)) mm_n0)
            have h3 : M23 (md 3) = some (ia G 2016 (upd s3 (336 * nw + i) (s3 (336 * j + i)))) := g25
            have hF := hF.tr f24 (mm_ic 1 rfl mm_i0)
            have hS := hS.out f24 (mm_nc (yne hJ (by decide) (by decide) (by decide)) mm_n0) (mm_nc (yne hJ (by decide) (by decide) (by decide)) mm_n0) (mm_nc (yne hJ (by decide) (by decide) (by decide)) mm_n0) (mm_nc (yne hJ (by decide) (by decide) (by decide)) mm_n0) (mm_nc (yne hJ (by decide) (by decide) (by decide)) mm_n0) (mm_nc (yne hJ (by decide) (by decide) (by decide)) mm_n0) (mm_nc (yne hJ (by decide) (by decide) (by decide)) mm_n0) (mm_nc (yne hJ (by decide) (by decide) (by decide)) mm_n0)
            refine lv_iinc (v := (nI (i + 1))) (lv' := [(2, .int (nI (i + 1))), (0, .ref (md 0)), (1, .int (nI j))]) hx hb dX9_split_58 hl (k := 2) rfl (by rw [show Int32.ofInt 1 = nI 1 from by decide]; exact nI_add _ _) (by decide) rfl (fun ls hl => ?_)
            refine lv_goto (tgt := 24) hx hb dX9_split_61 (by decide) ?_
            have e8 : s3 (336 * j + i) = ss (336 * j + i) := q2s3 _ (by omega)
            exact ih (i + 1) _ _ H locs ls (by omega) (by omega) hS h3 h4 h5 h6 h7 h8 h9 h15 h16 (fun t ht => by unfold upd; by_cases e : t = i; (rw [if_pos (by omega), e8, e]); (rw [if_neg (by omega)]; exact q1s3 t (by omega))) (fun t ht => by unfold upd; rw [if_neg (by omega)]; exact q2s3 t ht) hF hR (lv_sub hl [1, 2, 0] rfl)
      exact loopA (336 + 1) 0 _ _ _ _ ls (by omega) (by omega) hS h3 h4 h5 h6 h7 h8 h9 h15 h16 (fun j hj => absurd hj (Nat.not_lt_zero j)) (fun t _ => rfl) hF hR (lv_sub hl [1, 2, 0] rfl)
    · have c6 : nw = 6 := (nI_eq (a := nw) (b := 6) (by omega) (by omega)).mp c6
      refine lv_iconst (v := -1) hx hb dX9_split_20 (by decide) ?_
      exact mm_iret S hr hlocks hR (Or.inl ⟨rfl, fun q => by have := q.2; omega, hya0, hF⟩) dX9_split_21
  · skip
    refine lv_if_eq (tgt := 20) hx hb dX9_split_8 (by decide) (fun _ => ?_) (fun z => by first | exact absurd z (by decide) | exact absurd (by decide) z)
    refine lv_iconst (v := -1) hx hb dX9_split_20 (by decide) ?_
    exact mm_iret S hr hlocks hR (Or.inl ⟨rfl, fun q => n_x q.1, hya0, hF⟩) dX9_split_21
