set_option maxHeartbeats 4000000 in
set_option maxRecDepth 100000 in
/-- write(client, file) -/
theorem c_X9_write (l : Launch) (G : mm_G) (M : mm_M) (sz : Nat) (md : Nat → Nat) (cl ll : Nat) (wl sp : Int32) (co lr : Nat → Int32) (sh : Nat → Nat) (rem : Nat → Nat → Int32) (nw : Nat) (wst : Nat → Nat → Nat → Int32) (wfc : Nat → Nat → Int32) (wln : Nat → Nat → Nat) (x y : Int32)  (hya : yA G M md cl ll wl sp co lr sh rem nw wst wfc wln) (hJ : yI md) (hN : yN cl ll co sh rem nw wst wfc wln) : mm_i l yX9_write wsX9_write ({ frames := 6, cells := 0, slots := 0, locals := 280 } : Room) G ([.ref (md 0), .int x, .int y] : List Value) M sz (fun r M' => (r = -9 ∧ ¬ ((∃ j, j < 4 ∧ x = nI j) ∧ (∃ j, j < 16 ∧ y = nI j) ∧ cl ≤ 12) ∧ yA G M' md cl ll wl sp co lr sh rem nw wst wfc wln ∧ mm_fr [md 0, md 3, md 4, md 5, md 6, md 7, md 8, md 9, md 10, md 11, md 12, md 13, md 14, md 15, md 16] M M') ∨ ∃ c fi j, c < 4 ∧ fi < 16 ∧ j < nw ∧ sh c = j ∧ x = nI c ∧ y = nI fi ∧ cl ≤ 12 ∧ ((∃ k, k ≠ 0 ∧ k ≤ 4 ∧ r = -1 - nI k ∧ fckR (wst j) (rem c) (rtn (wfc j) (wln j)) c k ∧ yA G M' md 0 ll wl (sp + nI 1) co lr sh rem nw wst wfc wln ∧ mm_fr [md 0, md 3, md 4, md 5, md 6, md 7, md 8, md 9, md 10, md 11, md 12, md 13, md 14, md 15, md 16] M M') ∨ (r = nI 1 ∧ fckR (wst j) (rem c) (rtn (wfc j) (wln j)) c 0 ∧ yA G M' md 0 ll (wl + nI 1) sp co lr sh (updS rem c (nst (wst j) (rem c) (rtn (va_cpy co (wfc j) 0 (fi * 12) cl) (setL (wln j) fi cl)) c)) nw (updW wst j c (va_cpy (nst (wst j) (rem c) (rtn (va_cpy co (wfc j) 0 (fi * 12) cl) (setL (wln j) fi cl)) c) (wst j c) 0 0 84)) (updS wfc j (va_cpy co (wfc j) 0 (fi * 12) cl)) (putW wln j (setL (wln j) fi cl)) ∧ mm_fr [md 0, md 3, md 4, md 5, md 6, md 7, md 8, md 9, md 10, md 11, md 12, md 13, md 14, md 15, md 16] M M'))) := by
  refine mm_enter (cc := cX9_write) (maxL := 6) (ret := (some .int)) _ (by decide) rfl (Nat.le_of_ble_eq_true rfl) ?_
  intro p0 e0 s m0 be0 me0 c0 ls S hr hlocks hname hA hC hR hl
  have hx := S.1
  have hb := S.2.1
  have hl : lv_has ls 6 [(0, .ref (md 0)), (1, .int x), (2, .int y)] := hl
  have inRX9 : ∀ w ∈ wsX90, w ∈ wsX9_write := by decide +kernel
  have hF : mm_fr [md 0, md 3, md 4, md 5, md 6, md 7, md 8, md 9, md 10, md 11, md 12, md 13, md 14, md 15, md 16] M M := mm_fr.rf
  obtain ⟨hN1, hN2, hN3, hN4, hN5, hN6, hN7, hN8, hN9, hN10⟩ := hN
  have hya0 := hya
  obtain ⟨⟨v22, f, d, hS⟩, ⟨ss, h3, hs⟩, ⟨rr0, h4, hrm⟩, ⟨fs, h5, hfs⟩, ⟨fl, h6, hfl⟩, ⟨s7, h7, hsh⟩, ⟨cof, h8, hco⟩, ⟨lrf, h9, hlr⟩, ⟨tt, h15⟩, ⟨p, h16⟩⟩ := hya
  have h0 : M (md 0) = some (ob 10 [.ref (md 1), .ref (md 2), .ref (md 3), .ref (md 4), .ref (md 5), .ref (md 6), .int (nI nw), .ref (md 7), .ref (md 8), .int (nI cl), .ref (md 9), .int (nI ll), .int wl, .int sp, .ref (md 10), .int (nI 0), .ref (md 11), .ref (md 12), .ref (md 13), .ref (md 14), .ref (md 15), .ref (md 16), .int v22]) := hS.1
  have h10 : M (md 10) = some (ia G 256 f) := hS.2.1
  have h11 : M (md 11) = some (ia G 32 d) := hS.2.2.1
  refine lv_iload_n hx hb dX9_write_0 rfl (lv_at hl 1 rfl) ?_
  refine lv_iconst (v := nI 4) hx hb dX9_write_1 (by decide) ?_
  refine mm_calli hA hR (va_runS (As := [.int x, .int (nI 4)]) (rest := []) S (c_X9_isIn l G M _ x 4 (by omega)) (va_cwS 2 S.2.2.2.2 gX9_write_X9_isIn rfl rfl rfl (by decide +kernel) ⟨Nat.le_of_ble_eq_true rfl, Nat.le_of_ble_eq_true rfl⟩) (mm_preS hC hA hR _) rfl rfl hl.1 rfl (lv_room (Nat.le_of_ble_eq_true rfl)) dX9_write_2 ⟨Nat.le_of_ble_eq_true rfl, Nat.le_of_ble_eq_true rfl⟩) (fun r37 M38 H locs hp hR => ?_)
  obtain ⟨er, eM⟩ := hp
  subst eM
  rcases er with ⟨er, qg⟩ | ⟨er, n_x⟩ <;> subst er
  · skip
    obtain ⟨c, hc, e_x⟩ := qg
    rw [e_x] at hl
    refine lv_if_eq (tgt := 26) hx hb dX9_write_5 (by decide) (fun z => by first | exact absurd z (by decide) | exact absurd (by decide) z) (fun _ => ?_)
    refine lv_iload_n hx hb dX9_write_8 rfl (lv_at hl 2 rfl) ?_
    refine lv_bipush (v := nI 16) hx hb dX9_write_9 (by decide) ?_
    refine mm_calli hA hR (va_runS (As := [.int y, .int (nI 16)]) (rest := []) S (c_X9_isIn l G M _ y 16 (by omega)) (va_cwS 2 S.2.2.2.2 gX9_write_X9_isIn rfl rfl rfl (by decide +kernel) ⟨Nat.le_of_ble_eq_true rfl, Nat.le_of_ble_eq_true rfl⟩) (mm_preS hC hA hR _) rfl rfl hl.1 rfl (lv_room (Nat.le_of_ble_eq_true rfl)) dX9_write_11 ⟨Nat.le_of_ble_eq_true rfl, Nat.le_of_ble_eq_true rfl⟩) (fun r39 M40 H locs hp hR => ?_)
    obtain ⟨er, eM⟩ := hp
    subst eM
    rcases er with ⟨er, qg⟩ | ⟨er, n_y⟩ <;> subst er
    · skip
      obtain ⟨fi, hfi, e_y⟩ := qg
      rw [e_y] at hl
      refine lv_if_eq (tgt := 26) hx hb dX9_write_14 (by decide) (fun z => by first | exact absurd z (by decide) | exact absurd (by decide) z) (fun _ => ?_)
      refine lv_aload_n hx hb dX9_write_17 rfl (lv_at hl 0 rfl) ?_
      refine mm_get S hC hR (C := RX9) (T := TX9) (N := 23) (ref := "ForkWatchModel") (v := .int (nI cl)) 9 h0 inRX9 rfl (by decide) (by decide +kernel) (fun _ h9 => h9) rfl dX9_write_18 ?_
      refine lv_bipush (v := nI 12) hx hb dX9_write_21 (by decide) ?_
      refine lv_icmp_le (tgt := 29) hx hb dX9_write_23 (by decide) (fun c12 => ?_) (fun c12 => ?_)
      · have c12 : cl ≤ 12 := (nI_leI (a := cl) (b := 12) (by omega) (by omega)).mp c12
        obtain ⟨j, ej⟩ : ∃ z, z = sh c := ⟨_, rfl⟩
        have hj : j < nw := by rw [ej]; exact hN5 c hc
        have hs7 : s7 c = nI j := by rw [ej]; exact hsh c hc
        have hln : ∀ x, x < 16 → fl (16 * j + x) = nI (wln j x) ∧ wln j x ≤ 12 := fun x hx => ⟨hfl j hj x hx, hN6 j hj x hx⟩
        have hbf : ∀ x, x < 192 → byt (fs (192 * j + x)) := fun x hx => by rw [hfs j hj x hx]; exact hN9 j hj x hx
        have hbs : ∀ q, q < 4 → ∀ i, i < 84 → byt (ss (84 * (4 * j + q) + i)) := fun q hq i hi => by rw [hs j hj q hq i hi]; exact hN7 j hj q hq i hi
        have hbr : b20 (shf rr0 (84 * c)) := fun i hi => by show byt (rr0 (84 * c + i)); rw [hrm c hc i (by omega)]; exact hN8 c hc i (by omega)
        have hst9 : ∀ q, q < 4 → ∀ i, i < 84 → (fun q => shf ss (84 * (4 * j + q))) q i = wst j q i := fun q hq i hi => hs j hj q hq i hi
        refine lv_aload_n hx hb dX9_write_29 rfl (lv_at hl 0 rfl) ?_
        refine lv_iload_n hx hb dX9_write_30 rfl (lv_at hl 1 rfl) ?_
        refine mm_calli hA hR (va_runV (As := [.int (nI c)]) (rest := []) S (c_X9_check l G M _ md _ _ _ _ _ _ _ _ c j ss rr0 fs fl s7 _ _ (wln j) h3 h4 h5 h6 h7 h15 h16 hJ hS hc (by omega) hs7 hln hbf hbs) (cwV 1 S.2.2.2.2 gX9_write_X9_check rfl rfl rfl (by decide +kernel) ⟨Nat.le_of_ble_eq_true rfl, Nat.le_of_ble_eq_true rfl⟩) (mm_preV hC hA hR _ h0 rfl) rfl rfl hl.1 rfl (lv_room (Nat.le_of_ble_eq_true rfl)) dX9_write_31 ⟨Nat.le_of_ble_eq_true rfl, Nat.le_of_ble_eq_true rfl⟩) (fun r41 M42 H locs hp hR => ?_)
        obtain ⟨k, hk4, er, hfck, w22, fb, db, tb, pb, hS, h15, h16, ff⟩ := hp
        subst er
        have h3 := ff.at h3 (mm_nc (yne hJ (by decide) (by decide) (by decide)) (mm_nc (yne hJ (by decide) (by decide) (by decide)) (mm_nc (yne hJ (by decide) (by decide) (by decide)) (mm_nc (yne hJ (by decide) (by decide) (by decide)) (mm_nc (yne hJ (by decide) (by decide) (by decide)) (mm_nc (yne hJ (by decide) (by decide) (by decide)) (mm_nc (yne hJ (by decide) (by decide) (by decide)) (mm_nc (yne hJ (by decide) (by decide) (by decide)) mm_n0))))))))
        have h4 := ff.at h4 (mm_nc (yne hJ (by decide) (by decide) (by decide)) (mm_nc (yne hJ (by decide) (by decide) (by decide)) (mm_nc (yne hJ (by decide) (by decide) (by decide)) (mm_nc (yne hJ (by decide) (by decide) (by decide)) (mm_nc (yne hJ (by decide) (by decide) (by decide)) (mm_nc (yne hJ (by decide) (by decide) (by decide)) (mm_nc (yne hJ (by decide) (by decide) (by decide)) (mm_nc (yne hJ (by decide) (by decide) (by decide)) mm_n0))))))))
        have h5 := ff.at h5 (mm_nc (yne hJ (by decide) (by decide) (by decide)) (mm_nc (yne hJ (by decide) (by decide) (by decide)) (mm_nc (yne hJ (by decide) (by decide) (by decide)) (mm_nc (yne hJ (by decide) (by decide) (by decide)) (mm_nc (yne hJ (by decide) (by decide) (by decide)) (mm_nc (yne hJ (by decide) (by decide) (by decide)) (mm_nc (yne hJ (by decide) (by decide) (by decide)) (mm_nc (yne hJ (by decide) (by decide) (by decide)) mm_n0))))))))
        have h6 := ff.at h6 (mm_nc (yne hJ (by decide) (by decide) (by decide)) (mm_nc (yne hJ (by decide) (by decide) (by decide)) (mm_nc (yne hJ (by decide) (by decide) (by decide)) (mm_nc (yne hJ (by decide) (by decide) (by decide)) (mm_nc (yne hJ (by decide) (by decide) (by decide)) (mm_nc (yne hJ (by decide) (by decide) (by decide)) (mm_nc (yne hJ (by decide) (by decide) (by decide)) (mm_nc (yne hJ (by decide) (by decide) (by decide)) mm_n0))))))))
        have h7 := ff.at h7 (mm_nc (yne hJ (by decide) (by decide) (by decide)) (mm_nc (yne hJ (by decide) (by decide) (by decide)) (mm_nc (yne hJ (by decide) (by decide) (by decide)) (mm_nc (yne hJ (by decide) (by decide) (by decide)) (mm_nc (yne hJ (by decide) (by decide) (by decide)) (mm_nc (yne hJ (by decide) (by decide) (by decide)) (mm_nc (yne hJ (by decide) (by decide) (by decide)) (mm_nc (yne hJ (by decide) (by decide) (by decide)) mm_n0))))))))
        have h8 := ff.at h8 (mm_nc (yne hJ (by decide) (by decide) (by decide)) (mm_nc (yne hJ (by decide) (by decide) (by decide)) (mm_nc (yne hJ (by decide) (by decide) (by decide)) (mm_nc (yne hJ (by decide) (by decide) (by decide)) (mm_nc (yne hJ (by decide) (by decide) (by decide)) (mm_nc (yne hJ (by decide) (by decide) (by decide)) (mm_nc (yne hJ (by decide) (by decide) (by decide)) (mm_nc (yne hJ (by decide) (by decide) (by decide)) mm_n0))))))))
        have h9 := ff.at h9 (mm_nc (yne hJ (by decide) (by decide) (by decide)) (mm_nc (yne hJ (by decide) (by decide) (by decide)) (mm_nc (yne hJ (by decide) (by decide) (by decide)) (mm_nc (yne hJ (by decide) (by decide) (by decide)) (mm_nc (yne hJ (by decide) (by decide) (by decide)) (mm_nc (yne hJ (by decide) (by decide) (by decide)) (mm_nc (yne hJ (by decide) (by decide) (by decide)) (mm_nc (yne hJ (by decide) (by decide) (by decide)) mm_n0))))))))
        have h0 : M42 (md 0) = some (ob 10 [.ref (md 1), .ref (md 2), .ref (md 3), .ref (md 4), .ref (md 5), .ref (md 6), .int (nI nw), .ref (md 7), .ref (md 8), .int (nI cl), .ref (md 9), .int (nI ll), .int wl, .int sp, .ref (md 10), .int (nI 0), .ref (md 11), .ref (md 12), .ref (md 13), .ref (md 14), .ref (md 15), .ref (md 16), .int w22]) := hS.1
        have h10 : M42 (md 10) = some (ia G 256 fb) := hS.2.1
        have h11 : M42 (md 11) = some (ia G 32 db) := hS.2.2.1
        have h15 : M42 (md 15) = some (ia G 512 tb) := h15
        have h16 : M42 (md 16) = some (ia G 64 pb) := h16
        have hF := hF.tr ff (mm_ic 0 rfl (mm_ic 8 rfl (mm_ic 9 rfl (mm_ic 10 rfl (mm_ic 11 rfl (mm_ic 12 rfl (mm_ic 13 rfl (mm_ic 14 rfl mm_i0))))))))
        have hfck := fckR_ag hst9 (fun i hi => hrm c hc i hi) (rtn_ag (fun x hx => ⟨rfl, hN6 j hj x hx⟩) (hfs j hj)) hc hfck
        refine lv_istore_n (lv' := [(3, .int (nI k)), (0, .ref (md 0)), (1, .int (nI c)), (2, .int (nI fi))]) hx hb dX9_write_34 rfl hl (by decide) rfl (fun ls hl => ?_)
        refine lv_iload_n hx hb dX9_write_35 rfl (lv_at hl 0 rfl) ?_
        refine lv_if_le (tgt := 58) hx hb dX9_write_36 (by decide) (fun ck => ?_) (fun ck => ?_)
        · have ck : k ≤ 0 := (nI_leI (a := k) (b := 0) (by omega) (by omega)).mp ck
          have ek : 0 = k := by omega
          subst ek
          refine lv_bipush (v := nI 16) hx hb dX9_write_58 (by decide) ?_
          refine lv_aload_n hx hb dX9_write_60 rfl (lv_at hl 1 rfl) ?_
          refine mm_get S hC hR (C := RX9) (T := TX9) (N := 23) (ref := "ForkWatchModel") (v := .ref (md 7)) 7 h0 inRX9 rfl (by decide) (by decide +kernel) (fun _ h9 => h9) rfl dX9_write_61 ?_
          refine lv_iload_n hx hb dX9_write_64 rfl (lv_at hl 2 rfl) ?_
          refine mm_iald S hC hR h7 (j := c) (by omega) (by omega) dX9_write_65 ?_
          refine mm_eqi hs7 ?_
          refine lv_imul hx hb dX9_write_66 ?_
          refine mm_eqi (pk_mul _ _) ?_
          refine lv_iload_n hx hb dX9_write_67 rfl (lv_at hl 3 rfl) ?_
          refine lv_iadd hx hb dX9_write_68 ?_
          refine mm_eqi (nI_add _ _) ?_
          refine lv_istore (lv' := [(4, .int (nI (16 * j + fi))), (3, .int (nI 0)), (0, .ref (md 0)), (1, .int (nI c)), (2, .int (nI fi))]) hx hb dX9_write_69 hl (by decide) rfl (fun ls hl => ?_)
          refine lv_aload_n hx hb dX9_write_71 rfl (lv_at hl 2 rfl) ?_
          refine mm_get S hC hR (C := RX9) (T := TX9) (N := 23) (ref := "ForkWatchModel") (v := .ref (md 6)) 5 h0 inRX9 rfl (by decide) (by decide +kernel) (fun _ h9 => h9) rfl dX9_write_72 ?_
          refine lv_iload hx hb dX9_write_75 (lv_at hl 0 rfl) ?_
          refine lv_aload_n hx hb dX9_write_77 rfl (lv_at hl 2 rfl) ?_
          refine mm_get S hC hR (C := RX9) (T := TX9) (N := 23) (ref := "ForkWatchModel") (v := .int (nI cl)) 9 h0 inRX9 rfl (by decide) (by decide +kernel) (fun _ h9 => h9) rfl dX9_write_78 ?_
          refine mm_iast S hC hR h6 (j := (16 * j + fi)) (by omega) (by omega) dX9_write_81 (fun H locs M43 g45 f44 hR => ?_)
          have h3 := f44.at h3 (mm_nc (yne hJ (by decide) (by decide) (by decide)) mm_n0)
          have h4 := f44.at h4 (mm_nc (yne hJ (by decide) (by decide) (by decide)) mm_n0)
          have h5 := f44.at h5 (mm_nc (yne hJ (by decide) (by decide) (by decide)) mm_n0)
          have h7 := f44.at h7 (mm_nc (yne hJ (by decide) (by decide) (by decide)) mm_n0)
          have h8 := f44.at h8 (mm_nc (yne hJ (by decide) (by decide) (by decide)) mm_n0)
          have h9 := f44.at h9 (mm_nc (yne hJ (by decide) (by decide) (by decide)) mm_n0)
          have h15 := f44.at h15 (mm_nc (yne hJ (by decide) (by decide) (by decide)) mm_n0)
          have h16 := f44.at h16 (mm_nc (yne hJ (by decide) (by decide) (by decide)) mm_n0)
          have h0 := f44.at h0 (mm_nc (yne hJ (by decide) (by decide) (by decide)) mm_n0)
          have h10 := f44.at h10 (mm_nc (yne hJ (by decide) (by decide) (by decide)) mm_n0)
          have h11 := f44.at h11 (mm_nc (yne hJ (by decide) (by decide) (by decide)) mm_n0)
          have h6 : M43 (md 6) = some (ia G 96 (upd fl (16 * j + fi) (nI cl))) := g45
          have hF := hF.tr f44 (mm_ic 4 rfl mm_i0)
          have hS := hS.out f44 (mm_nc (yne hJ (by decide) (by decide) (by decide)) mm_n0) (mm_nc (yne hJ (by decide) (by decide) (by decide)) mm_n0) (mm_nc (yne hJ (by decide) (by decide) (by decide)) mm_n0) (mm_nc (yne hJ (by decide) (by decide) (by decide)) mm_n0) (mm_nc (yne hJ (by decide) (by decide) (by decide)) mm_n0) (mm_nc (yne hJ (by decide) (by decide) (by decide)) mm_n0) (mm_nc (yne hJ (by decide) (by decide) (by decide)) mm_n0) (mm_nc (yne hJ (by decide) (by decide) (by decide)) mm_n0)
          refine lv_iconst (v := nI 0) hx hb dX9_write_82 (by decide) ?_
          refine lv_istore (lv' := [(5, .int (nI 0)), (4, .int (nI (16 * j + fi))), (3, .int (nI 0)), (0, .ref (md 0)), (1, .int (nI c)), (2, .int (nI fi))]) hx hb dX9_write_83 hl (by decide) rfl (fun ls hl => ?_)
          have loopA : ∀ (n : Nat) (i : Nat)  (M1 : mm_M) (H : Heap) (locs : List Loc) (ls : Array Slot), (cl < i + n) → (i ≤ cl) → (yS G M1 md (nI nw) (nI cl) (nI ll) wl sp w22 0 fb db) → (M1 (md 3) = some (ia G 2016 ss)) → (M1 (md 4) = some (ia G 336 rr0)) → (M1 (md 5) = some (ia G 1152 (va_cpy cof fs 0 (12 * (16 * j + fi)) i))) → (M1 (md 6) = some (ia G 96 (upd fl (16 * j + fi) (nI cl)))) → (M1 (md 7) = some (ia G 4 s7)) → (M1 (md 8) = some (ia G 64 cof)) → (M1 (md 9) = some (ia G 12 lrf)) → (M1 (md 15) = some (ia G 512 tb)) → (M1 (md 16) = some (ia G 64 pb)) → (mm_fr [md 0, md 3, md 4, md 5, md 6, md 7, md 8, md 9, md 10, md 11, md 12, md 13, md 14, md 15, md 16] M M1) → mm_R G s (mm_A M sz) M1 H locs → lv_has ls 6 [(0, .ref (md 0)), (1, .int (nI c)), (2, .int (nI fi)), (3, .int (nI 0)), (4, .int (nI (16 * j + fi))), (5, .int (nI i))] → W p0 l e0 ({ frames := 6, cells := 0, slots := 0, locals := 280 } : Room) s m0 ([.ref (md 0), .int x, .int y] : List Value).toArray be0 me0 c0 H locs 0 0 (MQ be0 (va_Qi (fun r M' => (r = -9 ∧ ¬ ((∃ j, j < 4 ∧ x = nI j) ∧ (∃ j, j < 16 ∧ y = nI j) ∧ cl ≤ 12) ∧ yA G M' md cl ll wl sp co lr sh rem nw wst wfc wln ∧ mm_fr [md 0, md 3, md 4, md 5, md 6, md 7, md 8, md 9, md 10, md 11, md 12, md 13, md 14, md 15, md 16] M M') ∨ ∃ c fi j, c < 4 ∧ fi < 16 ∧ j < nw ∧ sh c = j ∧ x = nI c ∧ y = nI fi ∧ cl ≤ 12 ∧ ((∃ k, k ≠ 0 ∧ k ≤ 4 ∧ r = -1 - nI k ∧ fckR (wst j) (rem c) (rtn (wfc j) (wln j)) c k ∧ yA G M' md 0 ll wl (sp + nI 1) co lr sh rem nw wst wfc wln ∧ mm_fr [md 0, md 3, md 4, md 5, md 6, md 7, md 8, md 9, md 10, md 11, md 12, md 13, md 14, md 15, md 16] M M') ∨ (r = nI 1 ∧ fckR (wst j) (rem c) (rtn (wfc j) (wln j)) c 0 ∧ yA G M' md 0 ll (wl + nI 1) sp co lr sh (updS rem c (nst (wst j) (rem c) (rtn (va_cpy co (wfc j) 0 (fi * 12) cl) (setL (wln j) fi cl)) c)) nw (updW wst j c (va_cpy (nst (wst j) (rem c) (rtn (va_cpy co (wfc j) 0 (fi * 12) cl) (setL (wln j) fi cl)) c) (wst j c) 0 0 84)) (updS wfc j (va_cpy co (wfc j) 0 (fi * 12) cl)) (putW wln j (setL (wln j) fi cl)) ∧ mm_fr [md 0, md 3, md 4, md 5, md 6, md 7, md 8, md 9, md 10, md 11, md 12, md 13, md 14, md 15, md 16] M M'))) (fun M' t => mm_H G (mm_A M sz) M' t.heap) (mm_A M sz)) ([.ref (md 0), .int x, .int y] : List Value).toArray s 0 0 (mm_A M sz)) (F0 m0 85 ls []) := by
            intro n
            induction n with
            | zero =>
              intro i  M1 H locs ls hn hi hS h3 h4 h5 h6 h7 h8 h9 h15 h16 hF hR hl
              omega
            | succ n ih =>
              intro i  M1 H locs ls hn hi hS h3 h4 h5 h6 h7 h8 h9 h15 h16 hF hR hl
              have h0 : M1 (md 0) = some (ob 10 [.ref (md 1), .ref (md 2), .ref (md 3), .ref (md 4), .ref (md 5), .ref (md 6), .int (nI nw), .ref (md 7), .ref (md 8), .int (nI cl), .ref (md 9), .int (nI ll), .int wl, .int sp, .ref (md 10), .int (nI 0), .ref (md 11), .ref (md 12), .ref (md 13), .ref (md 14), .ref (md 15), .ref (md 16), .int w22]) := hS.1
              have h10 : M1 (md 10) = some (ia G 256 fb) := hS.2.1
              have h11 : M1 (md 11) = some (ia G 32 db) := hS.2.2.1
              refine lv_iload hx hb dX9_write_85 (lv_at hl 5 rfl) ?_
              refine lv_aload_n hx hb dX9_write_87 rfl (lv_at hl 0 rfl) ?_
              refine mm_get S hC hR (C := RX9) (T := TX9) (N := 23) (ref := "ForkWatchModel") (v := .int (nI cl)) 9 h0 inRX9 rfl (by decide) (by decide +kernel) (fun _ h9 => h9) rfl dX9_write_88 ?_
              refine lv_icmp_ge (tgt := 120) hx hb dX9_write_91 (by decide) (fun c46 => ?_) (fun c46 => ?_)
              · have c46 : cl ≤ i := (nI_leI (a := cl) (b := i) (by omega) (by omega)).mp c46
                have e4 : cl = i := by omega
                subst e4
                refine lv_aload_n hx hb dX9_write_120 rfl (lv_at hl 0 rfl) ?_
                refine lv_iconst (v := nI 0) hx hb dX9_write_121 (by decide) ?_
                refine mm_put S hC hR (C := RX9) (T := TX9) (N := 23) (ref := "ForkWatchModel") 9 h0 inRX9 rfl tyX9_ok nmX9 (by decide) (by decide +kernel) (fun _ h9 => h9) rfl rfl rfl (Nat.le_of_ble_eq_true rfl) dX9_write_122 (fun H locs M47 g49 f48 hR => ?_)
                have h3 := f48.at h3 (mm_nc (yne hJ (by decide) (by decide) (by decide)) mm_n0)
                have h4 := f48.at h4 (mm_nc (yne hJ (by decide) (by decide) (by decide)) mm_n0)
                have h5 := f48.at h5 (mm_nc (yne hJ (by decide) (by decide) (by decide)) mm_n0)
                have h6 := f48.at h6 (mm_nc (yne hJ (by decide) (by decide) (by decide)) mm_n0)
                have h7 := f48.at h7 (mm_nc (yne hJ (by decide) (by decide) (by decide)) mm_n0)
                have h8 := f48.at h8 (mm_nc (yne hJ (by decide) (by decide) (by decide)) mm_n0)
                have h9 := f48.at h9 (mm_nc (yne hJ (by decide) (by decide) (by decide)) mm_n0)
                have h15 := f48.at h15 (mm_nc (yne hJ (by decide) (by decide) (by decide)) mm_n0)
                have h16 := f48.at h16 (mm_nc (yne hJ (by decide) (by decide) (by decide)) mm_n0)
                have h10 := f48.at h10 (mm_nc (yne hJ (by decide) (by decide) (by decide)) mm_n0)
                have h11 := f48.at h11 (mm_nc (yne hJ (by decide) (by decide) (by decide)) mm_n0)
                have h0 : M47 (md 0) = some (ob 10 [.ref (md 1), .ref (md 2), .ref (md 3), .ref (md 4), .ref (md 5), .ref (md 6), .int (nI nw), .ref (md 7), .ref (md 8), .int (nI 0), .ref (md 9), .int (nI ll), .int wl, .int sp, .ref (md 10), .int (nI 0), .ref (md 11), .ref (md 12), .ref (md 13), .ref (md 14), .ref (md 15), .ref (md 16), .int w22]) := g49
                have hF := hF.tr f48 (mm_ic 0 rfl mm_i0)
                have hS := hS.ob hJ f48 h0
                refine lv_aload_n hx hb dX9_write_125 rfl (lv_at hl 0 rfl) ?_
                refine lv_iload_n hx hb dX9_write_126 rfl (lv_at hl 1 rfl) ?_
                have hln2 : ∀ x, x < 16 → upd fl (16 * j + fi) (nI cl) (16 * j + x) = nI (setL (wln j) fi cl x) ∧ setL (wln j) fi cl x ≤ 12 := fun x hx => by
                  unfold upd setL
                  by_cases e : x = fi
                  · rw [if_pos (by omega), if_pos e]; exact ⟨rfl, c12⟩
                  · rw [if_neg (by omega), if_neg e]; exact hln x hx
                have hfs2 : ∀ q, q < 192 → va_cpy cof fs 0 (12 * (16 * j + fi)) cl (192 * j + q) = (va_cpy co (wfc j) 0 (fi * 12) cl) q := fun q hq => by
                  by_cases e : fi * 12 ≤ q ∧ q < fi * 12 + cl
                  · rw [cpy_in (by omega) (by omega), cpy_in (by omega) (by omega), show 0 + (192 * j + q - 12 * (16 * j + fi)) = 0 + (q - fi * 12) by omega, hco _ (by omega)]
                  · rw [cpy_out (by omega), cpy_out (by omega), hfs j hj q hq]
                have hbf2 : ∀ x, x < 192 → byt (va_cpy cof fs 0 (12 * (16 * j + fi)) cl (192 * j + x)) := fun x hx => by
                  by_cases e : fi * 12 ≤ x ∧ x < fi * 12 + cl
                  · rw [cpy_in (by omega) (by omega), hco _ (by omega)]; exact hN10 _ (by omega)
                  · rw [cpy_out (by omega)]; exact hbf x hx
                refine mm_callv hA hR (va_runV (As := [.int (nI c)]) (rest := []) S (c_X9_advance l G M47 _ md _ _ _ _ _ _ _ _ c j ss rr0 (va_cpy cof fs 0 (12 * (16 * j + fi)) cl) (upd fl (16 * j + fi) (nI cl)) s7 _ _ (setL (wln j) fi cl) h3 h4 h5 h6 h7 h15 h16 hJ hS hc (by omega) hs7 hln2 hbf2 hbs ((inl_ag hst9).mpr (fck_in hfck).2.2.1) hbr) (cwV 1 S.2.2.2.2 gX9_write_X9_advance rfl rfl rfl (by decide +kernel) ⟨Nat.le_of_ble_eq_true rfl, Nat.le_of_ble_eq_true rfl⟩) (mm_preV hC hA hR _ h0 rfl) rfl rfl hl.1 rfl (lv_room (Nat.le_of_ble_eq_true rfl)) dX9_write_127 ⟨Nat.le_of_ble_eq_true rfl, Nat.le_of_ble_eq_true rfl⟩) (fun M51 H locs hp hR => ?_)
                obtain ⟨w23, fe, de, r5, te, pe, hS, h3, h4, h15, h16, hz1, hz2, ff⟩ := hp
                have h5 := ff.at h5 (mm_nc (yne hJ (by decide) (by decide) (by decide)) (mm_nc (yne hJ (by decide) (by decide) (by decide)) (mm_nc (yne hJ (by decide) (by decide) (by decide)) (mm_nc (yne hJ (by decide) (by decide) (by decide)) (mm_nc (yne hJ (by decide) (by decide) (by decide)) (mm_nc (yne hJ (by decide) (by decide) (by decide)) (mm_nc (yne hJ (by decide) (by decide) (by decide)) (mm_nc (yne hJ (by decide) (by decide) (by decide)) (mm_nc (yne hJ (by decide) (by decide) (by decide)) (mm_nc (yne hJ (by decide) (by decide) (by decide)) mm_n0))))))))))
                have h6 := ff.at h6 (mm_nc (yne hJ (by decide) (by decide) (by decide)) (mm_nc (yne hJ (by decide) (by decide) (by decide)) (mm_nc (yne hJ (by decide) (by decide) (by decide)) (mm_nc (yne hJ (by decide) (by decide) (by decide)) (mm_nc (yne hJ (by decide) (by decide) (by decide)) (mm_nc (yne hJ (by decide) (by decide) (by decide)) (mm_nc (yne hJ (by decide) (by decide) (by decide)) (mm_nc (yne hJ (by decide) (by decide) (by decide)) (mm_nc (yne hJ (by decide) (by decide) (by decide)) (mm_nc (yne hJ (by decide) (by decide) (by decide)) mm_n0))))))))))
                have h7 := ff.at h7 (mm_nc (yne hJ (by decide) (by decide) (by decide)) (mm_nc (yne hJ (by decide) (by decide) (by decide)) (mm_nc (yne hJ (by decide) (by decide) (by decide)) (mm_nc (yne hJ (by decide) (by decide) (by decide)) (mm_nc (yne hJ (by decide) (by decide) (by decide)) (mm_nc (yne hJ (by decide) (by decide) (by decide)) (mm_nc (yne hJ (by decide) (by decide) (by decide)) (mm_nc (yne hJ (by decide) (by decide) (by decide)) (mm_nc (yne hJ (by decide) (by decide) (by decide)) (mm_nc (yne hJ (by decide) (by decide) (by decide)) mm_n0))))))))))
                have h8 := ff.at h8 (mm_nc (yne hJ (by decide) (by decide) (by decide)) (mm_nc (yne hJ (by decide) (by decide) (by decide)) (mm_nc (yne hJ (by decide) (by decide) (by decide)) (mm_nc (yne hJ (by decide) (by decide) (by decide)) (mm_nc (yne hJ (by decide) (by decide) (by decide)) (mm_nc (yne hJ (by decide) (by decide) (by decide)) (mm_nc (yne hJ (by decide) (by decide) (by decide)) (mm_nc (yne hJ (by decide) (by decide) (by decide)) (mm_nc (yne hJ (by decide) (by decide) (by decide)) (mm_nc (yne hJ (by decide) (by decide) (by decide)) mm_n0))))))))))
                have h9 := ff.at h9 (mm_nc (yne hJ (by decide) (by decide) (by decide)) (mm_nc (yne hJ (by decide) (by decide) (by decide)) (mm_nc (yne hJ (by decide) (by decide) (by decide)) (mm_nc (yne hJ (by decide) (by decide) (by decide)) (mm_nc (yne hJ (by decide) (by decide) (by decide)) (mm_nc (yne hJ (by decide) (by decide) (by decide)) (mm_nc (yne hJ (by decide) (by decide) (by decide)) (mm_nc (yne hJ (by decide) (by decide) (by decide)) (mm_nc (yne hJ (by decide) (by decide) (by decide)) (mm_nc (yne hJ (by decide) (by decide) (by decide)) mm_n0))))))))))
                have h0 : M51 (md 0) = some (ob 10 [.ref (md 1), .ref (md 2), .ref (md 3), .ref (md 4), .ref (md 5), .ref (md 6), .int (nI nw), .ref (md 7), .ref (md 8), .int (nI 0), .ref (md 9), .int (nI ll), .int (wl + nI 1), .int sp, .ref (md 10), .int (nI 0), .ref (md 11), .ref (md 12), .ref (md 13), .ref (md 14), .ref (md 15), .ref (md 16), .int w23]) := hS.1
                have h10 : M51 (md 10) = some (ia G 256 fe) := hS.2.1
                have h11 : M51 (md 11) = some (ia G 32 de) := hS.2.2.1
                have h15 : M51 (md 15) = some (ia G 512 te) := h15
                have h16 : M51 (md 16) = some (ia G 64 pe) := h16
                have h3 : M51 (md 3) = some (ia G 2016 (va_cpy r5 ss (84 * c) (84 * (4 * j + c)) 84)) := h3
                have h4 : M51 (md 4) = some (ia G 336 r5) := h4
                have hF := hF.tr ff (mm_ic 0 rfl (mm_ic 8 rfl (mm_ic 9 rfl (mm_ic 10 rfl (mm_ic 11 rfl (mm_ic 12 rfl (mm_ic 1 rfl (mm_ic 2 rfl (mm_ic 13 rfl (mm_ic 14 rfl mm_i0))))))))))
                refine lv_iconst (v := nI 1) hx hb dX9_write_130 (by decide) ?_
                have hy1 : ∀ i, i < 84 → r5 (84 * c + i) = (nst (wst j) (rem c) (rtn (va_cpy co (wfc j) 0 (fi * 12) cl) (setL (wln j) fi cl)) c) i := fun i hi => by rw [hz1 i hi]; exact nst_ag hst9 (fun i hi => hrm c hc i hi) (rtn_ag (fun x hx => ⟨rfl, (hln2 x hx).2⟩) hfs2) i hi
                have y4 : ∀ c', c' < 4 → ∀ i, i < 84 → r5 (84 * c' + i) = updS rem c (nst (wst j) (rem c) (rtn (va_cpy co (wfc j) 0 (fi * 12) cl) (setL (wln j) fi cl)) c) c' i := fun c' hc' i hi => by
                  by_cases e : c' = c
                  · rw [e, uS_s, hy1 i hi]
                  · rw [uS_n e, hz2 _ (by omega), hrm c' hc' i hi]
                have y3 : ∀ j', j' < nw → ∀ c', c' < 4 → ∀ i, i < 84 → va_cpy r5 ss (84 * c) (84 * (4 * j + c)) 84 (84 * (4 * j' + c') + i) = updW wst j c (va_cpy (nst (wst j) (rem c) (rtn (va_cpy co (wfc j) 0 (fi * 12) cl) (setL (wln j) fi cl)) c) (wst j c) 0 0 84) j' c' i := fun j' hj' c' hc' i hi => by
                  by_cases e : j' = j ∧ c' = c
                  · obtain ⟨e1, e2⟩ := e
                    rw [e1, e2, uW_s, cpy_in (by omega) (by omega), cpy_in (by omega) (by omega), show 84 * c + (84 * (4 * j + c) + i - 84 * (4 * j + c)) = 84 * c + i by omega, hy1 i hi, show 0 + (i - 0) = i by omega]
                  · rw [uW_n (by omega), cpy_out (by omega), hs j' hj' c' hc' i hi]
                have y5 : ∀ j', j' < nw → ∀ q, q < 192 → va_cpy cof fs 0 (12 * (16 * j + fi)) cl (192 * j' + q) = updS wfc j (va_cpy co (wfc j) 0 (fi * 12) cl) j' q := fun j' hj' q hq => by
                  by_cases e : j' = j
                  · rw [e, uS_s]; exact hfs2 q hq
                  · rw [uS_n e, cpy_out (by omega), hfs j' hj' q hq]
                have y6 : ∀ j', j' < nw → ∀ x, x < 16 → upd fl (16 * j + fi) (nI cl) (16 * j' + x) = nI (putW wln j (setL (wln j) fi cl) j' x) := fun j' hj' x hx => by
                  by_cases e : j' = j
                  · rw [e, putW_s]; exact (hln2 x hx).1
                  · rw [putW_n e]
                    unfold upd
                    rw [if_neg (by omega), hfl j' hj' x hx]
                exact mm_iret S hr hlocks hR (Or.inr ⟨c, fi, j, hc, hfi, hj, ej.symm, e_x, e_y, c12, Or.inr ⟨rfl, hfck, ⟨⟨_, _, _, hS⟩, ⟨_, h3, y3⟩, ⟨_, h4, y4⟩, ⟨_, h5, y5⟩, ⟨_, h6, y6⟩, ⟨_, h7, hsh⟩, ⟨_, h8, (fun j hj => absurd hj (Nat.not_lt_zero j))⟩, ⟨_, h9, hlr⟩, ⟨_, h15⟩, ⟨_, h16⟩⟩, hF⟩⟩) dX9_write_131
              · have c46 : ¬ (cl ≤ i) := fun z => c46 ((nI_leI (a := cl) (b := i) (by omega) (by omega)).mpr z)
                refine lv_aload_n hx hb dX9_write_94 rfl (lv_at hl 0 rfl) ?_
                refine mm_get S hC hR (C := RX9) (T := TX9) (N := 23) (ref := "ForkWatchModel") (v := .ref (md 5)) 4 h0 inRX9 rfl (by decide) (by decide +kernel) (fun _ h9 => h9) rfl dX9_write_95 ?_
                refine lv_bipush (v := nI 12) hx hb dX9_write_98 (by decide) ?_
                refine lv_iload hx hb dX9_write_100 (lv_at hl 4 rfl) ?_
                refine lv_imul hx hb dX9_write_102 ?_
                refine mm_eqi (pk_mul _ _) ?_
                refine lv_iload hx hb dX9_write_103 (lv_at hl 5 rfl) ?_
                refine lv_iadd hx hb dX9_write_105 ?_
                refine mm_eqi (nI_add _ _) ?_
                refine lv_aload_n hx hb dX9_write_106 rfl (lv_at hl 0 rfl) ?_
                refine mm_get S hC hR (C := RX9) (T := TX9) (N := 23) (ref := "ForkWatchModel") (v := .ref (md 8)) 8 h0 inRX9 rfl (by decide) (by decide +kernel) (fun _ h9 => h9) rfl dX9_write_107 ?_
                refine lv_iload hx hb dX9_write_110 (lv_at hl 5 rfl) ?_
                refine mm_iald S hC hR h8 (j := i) (by omega) (by omega) dX9_write_112 ?_
                refine mm_iast S hC hR h5 (j := (12 * (16 * j + fi) + i)) (by omega) (by omega) dX9_write_113 (fun H locs M52 g54 f53 hR => ?_)
                have h3 := f53.at h3 (mm_nc (yne hJ (by decide) (by decide) (by decide)) mm_n0)
                have h4 := f53.at h4 (mm_nc (yne hJ (by decide) (by decide) (by decide)) mm_n0)
                have h6 := f53.at h6 (mm_nc (yne hJ (by decide) (by decide) (by decide)) mm_n0)
                have h7 := f53.at h7 (mm_nc (yne hJ (by decide) (by decide) (by decide)) mm_n0)
                have h8 := f53.at h8 (mm_nc (yne hJ (by decide) (by decide) (by decide)) mm_n0)
                have h9 := f53.at h9 (mm_nc (yne hJ (by decide) (by decide) (by decide)) mm_n0)
                have h15 := f53.at h15 (mm_nc (yne hJ (by decide) (by decide) (by decide)) mm_n0)
                have h16 := f53.at h16 (mm_nc (yne hJ (by decide) (by decide) (by decide)) mm_n0)
                have h0 := f53.at h0 (mm_nc (yne hJ (by decide) (by decide) (by decide)) mm_n0)
                have h10 := f53.at h10 (mm_nc (yne hJ (by decide) (by decide) (by decide)) mm_n0)
                have h11 := f53.at h11 (mm_nc (yne hJ (by decide) (by decide) (by decide)) mm_n0)
                have h5 : M52 (md 5) = some (ia G 1152 (upd (va_cpy cof fs 0 (12 * (16 * j + fi)) i) (12 * (16 * j + fi) + i) (cof i))) := g54
                have hF := hF.tr f53 (mm_ic 3 rfl mm_i0)
                have hS := hS.out f53 (mm_nc (yne hJ (by decide) (by decide) (by decide)) mm_n0) (mm_nc (yne hJ (by decide) (by decide) (by decide)) mm_n0) (mm_nc (yne hJ (by decide) (by decide) (by decide)) mm_n0) (mm_nc (yne hJ (by decide) (by decide) (by decide)) mm_n0) (mm_nc (yne hJ (by decide) (by decide) (by decide)) mm_n0) (mm_nc (yne hJ (by decide) (by decide) (by decide)) mm_n0) (mm_nc (yne hJ (by decide) (by decide) (by decide)) mm_n0) (mm_nc (yne hJ (by decide) (by decide) (by decide)) mm_n0)
                refine lv_iinc (v := (nI (i + 1))) (lv' := [(5, .int (nI (i + 1))), (0, .ref (md 0)), (1, .int (nI c)), (2, .int (nI fi)), (3, .int (nI 0)), (4, .int (nI (16 * j + fi)))]) hx hb dX9_write_114 hl (k := 5) rfl (by rw [show Int32.ofInt 1 = nI 1 from by decide]; exact nI_add _ _) (by decide) rfl (fun ls hl => ?_)
                refine lv_goto (tgt := 85) hx hb dX9_write_117 (by decide) ?_
                exact ih (i + 1)  _ H locs ls (by omega) (by omega) hS h3 h4 (cellE h5 (cpy_sz rfl)) h6 h7 h8 h9 h15 h16 hF hR (lv_sub hl [1, 2, 3, 4, 5, 0] rfl)
          exact loopA (cl + 1) 0  _ _ _ ls (by omega) (by omega) hS h3 h4 (cellE h5 cpy_0.symm) h6 h7 h8 h9 h15 h16 hF hR (lv_sub hl [3, 4, 5, 2, 1, 0] rfl)
        · have ck : ¬ (k ≤ 0) := fun z => ck ((nI_leI (a := k) (b := 0) (by omega) (by omega)).mpr z)
          refine lv_aload_n hx hb dX9_write_39 rfl (lv_at hl 1 rfl) ?_
          refine lv_dup hx hb dX9_write_40 rfl ?_
          refine mm_get S hC hR (C := RX9) (T := TX9) (N := 23) (ref := "ForkWatchModel") (v := .int sp) 13 h0 inRX9 rfl (by decide) (by decide +kernel) (fun _ h9 => h9) rfl dX9_write_41 ?_
          refine lv_iconst (v := nI 1) hx hb dX9_write_44 (by decide) ?_
          refine lv_iadd hx hb dX9_write_45 ?_
          refine mm_put S hC hR (C := RX9) (T := TX9) (N := 23) (ref := "ForkWatchModel") 13 h0 inRX9 rfl tyX9_ok nmX9 (by decide) (by decide +kernel) (fun _ h9 => h9) rfl rfl rfl (Nat.le_of_ble_eq_true rfl) dX9_write_46 (fun H locs M55 g57 f56 hR => ?_)
          have h3 := f56.at h3 (mm_nc (yne hJ (by decide) (by decide) (by decide)) mm_n0)
          have h4 := f56.at h4 (mm_nc (yne hJ (by decide) (by decide) (by decide)) mm_n0)
          have h5 := f56.at h5 (mm_nc (yne hJ (by decide) (by decide) (by decide)) mm_n0)
          have h6 := f56.at h6 (mm_nc (yne hJ (by decide) (by decide) (by decide)) mm_n0)
          have h7 := f56.at h7 (mm_nc (yne hJ (by decide) (by decide) (by decide)) mm_n0)
          have h8 := f56.at h8 (mm_nc (yne hJ (by decide) (by decide) (by decide)) mm_n0)
          have h9 := f56.at h9 (mm_nc (yne hJ (by decide) (by decide) (by decide)) mm_n0)
          have h15 := f56.at h15 (mm_nc (yne hJ (by decide) (by decide) (by decide)) mm_n0)
          have h16 := f56.at h16 (mm_nc (yne hJ (by decide) (by decide) (by decide)) mm_n0)
          have h10 := f56.at h10 (mm_nc (yne hJ (by decide) (by decide) (by decide)) mm_n0)
          have h11 := f56.at h11 (mm_nc (yne hJ (by decide) (by decide) (by decide)) mm_n0)
          have h0 : M55 (md 0) = some (ob 10 [.ref (md 1), .ref (md 2), .ref (md 3), .ref (md 4), .ref (md 5), .ref (md 6), .int (nI nw), .ref (md 7), .ref (md 8), .int (nI cl), .ref (md 9), .int (nI ll), .int wl, .int (sp + (nI 1)), .ref (md 10), .int (nI 0), .ref (md 11), .ref (md 12), .ref (md 13), .ref (md 14), .ref (md 15), .ref (md 16), .int w22]) := g57
          have hF := hF.tr f56 (mm_ic 0 rfl mm_i0)
          have hS := hS.ob hJ f56 h0
          refine lv_aload_n hx hb dX9_write_49 rfl (lv_at hl 1 rfl) ?_
          refine lv_iconst (v := nI 0) hx hb dX9_write_50 (by decide) ?_
          refine mm_put S hC hR (C := RX9) (T := TX9) (N := 23) (ref := "ForkWatchModel") 9 h0 inRX9 rfl tyX9_ok nmX9 (by decide) (by decide +kernel) (fun _ h9 => h9) rfl rfl rfl (Nat.le_of_ble_eq_true rfl) dX9_write_51 (fun H locs M58 g60 f59 hR => ?_)
          have h3 := f59.at h3 (mm_nc (yne hJ (by decide) (by decide) (by decide)) mm_n0)
          have h4 := f59.at h4 (mm_nc (yne hJ (by decide) (by decide) (by decide)) mm_n0)
          have h5 := f59.at h5 (mm_nc (yne hJ (by decide) (by decide) (by decide)) mm_n0)
          have h6 := f59.at h6 (mm_nc (yne hJ (by decide) (by decide) (by decide)) mm_n0)
          have h7 := f59.at h7 (mm_nc (yne hJ (by decide) (by decide) (by decide)) mm_n0)
          have h8 := f59.at h8 (mm_nc (yne hJ (by decide) (by decide) (by decide)) mm_n0)
          have h9 := f59.at h9 (mm_nc (yne hJ (by decide) (by decide) (by decide)) mm_n0)
          have h15 := f59.at h15 (mm_nc (yne hJ (by decide) (by decide) (by decide)) mm_n0)
          have h16 := f59.at h16 (mm_nc (yne hJ (by decide) (by decide) (by decide)) mm_n0)
          have h10 := f59.at h10 (mm_nc (yne hJ (by decide) (by decide) (by decide)) mm_n0)
          have h11 := f59.at h11 (mm_nc (yne hJ (by decide) (by decide) (by decide)) mm_n0)
          have h0 : M58 (md 0) = some (ob 10 [.ref (md 1), .ref (md 2), .ref (md 3), .ref (md 4), .ref (md 5), .ref (md 6), .int (nI nw), .ref (md 7), .ref (md 8), .int (nI 0), .ref (md 9), .int (nI ll), .int wl, .int (sp + (nI 1)), .ref (md 10), .int (nI 0), .ref (md 11), .ref (md 12), .ref (md 13), .ref (md 14), .ref (md 15), .ref (md 16), .int w22]) := g60
          have hF := hF.tr f59 (mm_ic 0 rfl mm_i0)
          have hS := hS.ob hJ f59 h0
          refine lv_iconst (v := -1) hx hb dX9_write_54 (by decide) ?_
          refine lv_iload_n hx hb dX9_write_55 rfl (lv_at hl 0 rfl) ?_
          refine lv_isub hx hb dX9_write_56 ?_
          exact mm_iret S hr hlocks hR (Or.inr ⟨c, fi, j, hc, hfi, hj, ej.symm, e_x, e_y, c12, Or.inl ⟨k, by omega, hk4, rfl, hfck, ⟨⟨_, _, _, hS⟩, ⟨_, h3, hs⟩, ⟨_, h4, hrm⟩, ⟨_, h5, hfs⟩, ⟨_, h6, hfl⟩, ⟨_, h7, hsh⟩, ⟨_, h8, (fun j hj => absurd hj (Nat.not_lt_zero j))⟩, ⟨_, h9, hlr⟩, ⟨_, h15⟩, ⟨_, h16⟩⟩, hF⟩⟩) dX9_write_57
      · have c12 : ¬ (cl ≤ 12) := fun z => c12 ((nI_leI (a := cl) (b := 12) (by omega) (by omega)).mpr z)
        refine lv_bipush (v := -9) hx hb dX9_write_26 (by decide) ?_
        exact mm_iret S hr hlocks hR (Or.inl ⟨rfl, fun q => c12 q.2.2, hya0, hF⟩) dX9_write_28
    · skip
      refine lv_if_eq (tgt := 26) hx hb dX9_write_14 (by decide) (fun _ => ?_) (fun z => by first | exact absurd z (by decide) | exact absurd (by decide) z)
      refine lv_bipush (v := -9) hx hb dX9_write_26 (by decide) ?_
      exact mm_iret S hr hlocks hR (Or.inl ⟨rfl, fun q => n_y q.2.1, hya0, hF⟩) dX9_write_28
  · skip
    refine lv_if_eq (tgt := 26) hx hb dX9_write_5 (by decide) (fun _ => ?_) (fun z => by first | exact absurd z (by decide) | exact absurd (by decide) z)
    refine lv_bipush (v := -9) hx hb dX9_write_26 (by decide) ?_
    exact mm_iret S hr hlocks hR (Or.inl ⟨rfl, fun q => n_x q.1, hya0, hF⟩) dX9_write_28

set_option maxHeartbeats 4000000 in
set_option maxRecDepth 100000 in
/-- read(client, file) -/
theorem c_X9_read (l : Launch) (G : mm_G) (M : mm_M) (sz : Nat) (md : Nat → Nat) (cl ll : Nat) (wl sp : Int32) (co lr : Nat → Int32) (sh : Nat → Nat) (rem : Nat → Nat → Int32) (nw : Nat) (wst : Nat → Nat → Nat → Int32) (wfc : Nat → Nat → Int32) (wln : Nat → Nat → Nat) (x y : Int32)  (hya : yA G M md cl ll wl sp co lr sh rem nw wst wfc wln) (hJ : yI md) (hN : yN cl ll co sh rem nw wst wfc wln) : mm_i l yX9_read wsX9_read ({ frames := 6, cells := 0, slots := 0, locals := 280 } : Room) G ([.ref (md 0), .int x, .int y] : List Value) M sz (fun r M' => (r = -9 ∧ ¬ ((∃ j, j < 4 ∧ x = nI j) ∧ (∃ j, j < 16 ∧ y = nI j)) ∧ yA G M' md cl ll wl sp co lr sh rem nw wst wfc wln ∧ mm_fr [md 0, md 3, md 4, md 5, md 6, md 7, md 8, md 9, md 10, md 11, md 12, md 13, md 14, md 15, md 16] M M') ∨ ∃ c fi j, c < 4 ∧ fi < 16 ∧ j < nw ∧ sh c = j ∧ x = nI c ∧ y = nI fi ∧ ((∃ k, k ≠ 0 ∧ k ≤ 4 ∧ r = -1 - nI k ∧ fckR (wst j) (rem c) (rtn (wfc j) (wln j)) c k ∧ yA G M' md cl ll wl (sp + nI 1) co lr sh rem nw wst wfc wln ∧ mm_fr [md 0, md 3, md 4, md 5, md 6, md 7, md 8, md 9, md 10, md 11, md 12, md 13, md 14, md 15, md 16] M M') ∨ (r = nI (wln j fi) ∧ fckR (wst j) (rem c) (rtn (wfc j) (wln j)) c 0 ∧ yA G M' md cl (wln j fi) (wl + nI 1) sp co (va_cpy (wfc j) lr (fi * 12) 0 (wln j fi)) sh (updS rem c (nst (wst j) (rem c) (rtn (wfc j) (wln j)) c)) nw (updW wst j c (va_cpy (nst (wst j) (rem c) (rtn (wfc j) (wln j)) c) (wst j c) 0 0 84)) wfc wln ∧ mm_fr [md 0, md 3, md 4, md 5, md 6, md 7, md 8, md 9, md 10, md 11, md 12, md 13, md 14, md 15, md 16] M M'))) := by
  refine mm_enter (cc := cX9_read) (maxL := 6) (ret := (some .int)) _ (by decide) rfl (Nat.le_of_ble_eq_true rfl) ?_
  intro p0 e0 s m0 be0 me0 c0 ls S hr hlocks hname hA hC hR hl
  have hx := S.1
  have hb := S.2.1
  have hl : lv_has ls 6 [(0, .ref (md 0)), (1, .int x), (2, .int y)] := hl
  have inRX9 : ∀ w ∈ wsX90, w ∈ wsX9_read := by decide +kernel
  have hF : mm_fr [md 0, md 3, md 4, md 5, md 6, md 7, md 8, md 9, md 10, md 11, md 12, md 13, md 14, md 15, md 16] M M := mm_fr.rf
  obtain ⟨hN1, hN2, hN3, hN4, hN5, hN6, hN7, hN8, hN9, hN10⟩ := hN
  have hya0 := hya
  obtain ⟨⟨v22, f, d, hS⟩, ⟨ss, h3, hs⟩, ⟨rr0, h4, hrm⟩, ⟨fs, h5, hfs⟩, ⟨fl, h6, hfl⟩, ⟨s7, h7, hsh⟩, ⟨cof, h8, hco⟩, ⟨lrf, h9, hlr⟩, ⟨tt, h15⟩, ⟨p, h16⟩⟩ := hya
  have h0 : M (md 0) = some (ob 10 [.ref (md 1), .ref (md 2), .ref (md 3), .ref (md 4), .ref (md 5), .ref (md 6), .int (nI nw), .ref (md 7), .ref (md 8), .int (nI cl), .ref (md 9), .int (nI ll), .int wl, .int sp, .ref (md 10), .int (nI 0), .ref (md 11), .ref (md 12), .ref (md 13), .ref (md 14), .ref (md 15), .ref (md 16), .int v22]) := hS.1
  have h10 : M (md 10) = some (ia G 256 f) := hS.2.1
  have h11 : M (md 11) = some (ia G 32 d) := hS.2.2.1
  refine lv_iload_n hx hb dX9_read_0 rfl (lv_at hl 1 rfl) ?_
  refine lv_iconst (v := nI 4) hx hb dX9_read_1 (by decide) ?_
  refine mm_calli hA hR (va_runS (As := [.int x, .int (nI 4)]) (rest := []) S (c_X9_isIn l G M _ x 4 (by omega)) (va_cwS 2 S.2.2.2.2 gX9_read_X9_isIn rfl rfl rfl (by decide +kernel) ⟨Nat.le_of_ble_eq_true rfl, Nat.le_of_ble_eq_true rfl⟩) (mm_preS hC hA hR _) rfl rfl hl.1 rfl (lv_room (Nat.le_of_ble_eq_true rfl)) dX9_read_2 ⟨Nat.le_of_ble_eq_true rfl, Nat.le_of_ble_eq_true rfl⟩) (fun r61 M62 H locs hp hR => ?_)
  obtain ⟨er, eM⟩ := hp
  subst eM
  rcases er with ⟨er, qg⟩ | ⟨er, n_x⟩ <;> subst er
  · skip
    obtain ⟨c, hc, e_x⟩ := qg
    rw [e_x] at hl
    refine lv_if_eq (tgt := 17) hx hb dX9_read_5 (by decide) (fun z => by first | exact absurd z (by decide) | exact absurd (by decide) z) (fun _ => ?_)
    refine lv_iload_n hx hb dX9_read_8 rfl (lv_at hl 2 rfl) ?_
    refine lv_bipush (v := nI 16) hx hb dX9_read_9 (by decide) ?_
    refine mm_calli hA hR (va_runS (As := [.int y, .int (nI 16)]) (rest := []) S (c_X9_isIn l G M _ y 16 (by omega)) (va_cwS 2 S.2.2.2.2 gX9_read_X9_isIn rfl rfl rfl (by decide +kernel) ⟨Nat.le_of_ble_eq_true rfl, Nat.le_of_ble_eq_true rfl⟩) (mm_preS hC hA hR _) rfl rfl hl.1 rfl (lv_room (Nat.le_of_ble_eq_true rfl)) dX9_read_11 ⟨Nat.le_of_ble_eq_true rfl, Nat.le_of_ble_eq_true rfl⟩) (fun r63 M64 H locs hp hR => ?_)
    obtain ⟨er, eM⟩ := hp
    subst eM
    rcases er with ⟨er, qg⟩ | ⟨er, n_y⟩ <;> subst er
    · skip
      obtain ⟨fi, hfi, e_y⟩ := qg
      rw [e_y] at hl
      refine lv_if_ne (tgt := 20) hx hb dX9_read_14 (by decide) (fun _ => ?_) (fun z => by first | exact absurd z (by decide) | exact absurd (by decide) z)
      obtain ⟨j, ej⟩ : ∃ z, z = sh c := ⟨_, rfl⟩
      have hj : j < nw := by rw [ej]; exact hN5 c hc
      have hs7 : s7 c = nI j := by rw [ej]; exact hsh c hc
      have hln : ∀ x, x < 16 → fl (16 * j + x) = nI (wln j x) ∧ wln j x ≤ 12 := fun x hx => ⟨hfl j hj x hx, hN6 j hj x hx⟩
      have hbf : ∀ x, x < 192 → byt (fs (192 * j + x)) := fun x hx => by rw [hfs j hj x hx]; exact hN9 j hj x hx
      have hbs : ∀ q, q < 4 → ∀ i, i < 84 → byt (ss (84 * (4 * j + q) + i)) := fun q hq i hi => by rw [hs j hj q hq i hi]; exact hN7 j hj q hq i hi
      have hbr : b20 (shf rr0 (84 * c)) := fun i hi => by show byt (rr0 (84 * c + i)); rw [hrm c hc i (by omega)]; exact hN8 c hc i (by omega)
      have hst9 : ∀ q, q < 4 → ∀ i, i < 84 → (fun q => shf ss (84 * (4 * j + q))) q i = wst j q i := fun q hq i hi => hs j hj q hq i hi
      refine lv_aload_n hx hb dX9_read_20 rfl (lv_at hl 0 rfl) ?_
      refine lv_iload_n hx hb dX9_read_21 rfl (lv_at hl 1 rfl) ?_
      refine mm_calli hA hR (va_runV (As := [.int (nI c)]) (rest := []) S (c_X9_check l G M _ md _ _ _ _ _ _ _ _ c j ss rr0 fs fl s7 _ _ (wln j) h3 h4 h5 h6 h7 h15 h16 hJ hS hc (by omega) hs7 hln hbf hbs) (cwV 1 S.2.2.2.2 gX9_read_X9_check rfl rfl rfl (by decide +kernel) ⟨Nat.le_of_ble_eq_true rfl, Nat.le_of_ble_eq_true rfl⟩) (mm_preV hC hA hR _ h0 rfl) rfl rfl hl.1 rfl (lv_room (Nat.le_of_ble_eq_true rfl)) dX9_read_22 ⟨Nat.le_of_ble_eq_true rfl, Nat.le_of_ble_eq_true rfl⟩) (fun r65 M66 H locs hp hR => ?_)
      obtain ⟨k, hk4, er, hfck, w22, fb, db, tb, pb, hS, h15, h16, ff⟩ := hp
      subst er
      have h3 := ff.at h3 (mm_nc (yne hJ (by decide) (by decide) (by decide)) (mm_nc (yne hJ (by decide) (by decide) (by decide)) (mm_nc (yne hJ (by decide) (by decide) (by decide)) (mm_nc (yne hJ (by decide) (by decide) (by decide)) (mm_nc (yne hJ (by decide) (by decide) (by decide)) (mm_nc (yne hJ (by decide) (by decide) (by decide)) (mm_nc (yne hJ (by decide) (by decide) (by decide)) (mm_nc (yne hJ (by decide) (by decide) (by decide)) mm_n0))))))))
      have h4 := ff.at h4 (mm_nc (yne hJ (by decide) (by decide) (by decide)) (mm_nc (yne hJ (by decide) (by decide) (by decide)) (mm_nc (yne hJ (by decide) (by decide) (by decide)) (mm_nc (yne hJ (by decide) (by decide) (by decide)) (mm_nc (yne hJ (by decide) (by decide) (by decide)) (mm_nc (yne hJ (by decide) (by decide) (by decide)) (mm_nc (yne hJ (by decide) (by decide) (by decide)) (mm_nc (yne hJ (by decide) (by decide) (by decide)) mm_n0))))))))
      have h5 := ff.at h5 (mm_nc (yne hJ (by decide) (by decide) (by decide)) (mm_nc (yne hJ (by decide) (by decide) (by decide)) (mm_nc (yne hJ (by decide) (by decide) (by decide)) (mm_nc (yne hJ (by decide) (by decide) (by decide)) (mm_nc (yne hJ (by decide) (by decide) (by decide)) (mm_nc (yne hJ (by decide) (by decide) (by decide)) (mm_nc (yne hJ (by decide) (by decide) (by decide)) (mm_nc (yne hJ (by decide) (by decide) (by decide)) mm_n0))))))))
      have h6 := ff.at h6 (mm_nc (yne hJ (by decide) (by decide) (by decide)) (mm_nc (yne hJ (by decide) (by decide) (by decide)) (mm_nc (yne hJ (by decide) (by decide) (by decide)) (mm_nc (yne hJ (by decide) (by decide) (by decide)) (mm_nc (yne hJ (by decide) (by decide) (by decide)) (mm_nc (yne hJ (by decide) (by decide) (by decide)) (mm_nc (yne hJ (by decide) (by decide) (by decide)) (mm_nc (yne hJ (by decide) (by decide) (by decide)) mm_n0))))))))
      have h7 := ff.at h7 (mm_nc (yne hJ (by decide) (by decide) (by decide)) (mm_nc (yne hJ (by decide) (by decide) (by decide)) (mm_nc (yne hJ (by decide) (by decide) (by decide)) (mm_nc (yne hJ (by decide) (by decide) (by decide)) (mm_nc (yne hJ (by decide) (by decide) (by decide)) (mm_nc (yne hJ (by decide) (by decide) (by decide)) (mm_nc (yne hJ (by decide) (by decide) (by decide)) (mm_nc (yne hJ (by decide) (by decide) (by decide)) mm_n0))))))))
      have h8 := ff.at h8 (mm_nc (yne hJ (by decide) (by decide) (by decide)) (mm_nc (yne hJ (by decide) (by decide) (by decide)) (mm_nc (yne hJ (by decide) (by decide) (by decide)) (mm_nc (yne hJ (by decide) (by decide) (by decide)) (mm_nc (yne hJ (by decide) (by decide) (by decide)) (mm_nc (yne hJ (by decide) (by decide) (by decide)) (mm_nc (yne hJ (by decide) (by decide) (by decide)) (mm_nc (yne hJ (by decide) (by decide) (by decide)) mm_n0))))))))
      have h9 := ff.at h9 (mm_nc (yne hJ (by decide) (by decide) (by decide)) (mm_nc (yne hJ (by decide) (by decide) (by decide)) (mm_nc (yne hJ (by decide) (by decide) (by decide)) (mm_nc (yne hJ (by decide) (by decide) (by decide)) (mm_nc (yne hJ (by decide) (by decide) (by decide)) (mm_nc (yne hJ (by decide) (by decide) (by decide)) (mm_nc (yne hJ (by decide) (by decide) (by decide)) (mm_nc (yne hJ (by decide) (by decide) (by decide)) mm_n0))))))))
      have h0 : M66 (md 0) = some (ob 10 [.ref (md 1), .ref (md 2), .ref (md 3), .ref (md 4), .ref (md 5), .ref (md 6), .int (nI nw), .ref (md 7), .ref (md 8), .int (nI cl), .ref (md 9), .int (nI ll), .int wl, .int sp, .ref (md 10), .int (nI 0), .ref (md 11), .ref (md 12), .ref (md 13), .ref (md 14), .ref (md 15), .ref (md 16), .int w22]) := hS.1
      have h10 : M66 (md 10) = some (ia G 256 fb) := hS.2.1
      have h11 : M66 (md 11) = some (ia G 32 db) := hS.2.2.1
      have h15 : M66 (md 15) = some (ia G 512 tb) := h15
      have h16 : M66 (md 16) = some (ia G 64 pb) := h16
      have hF := hF.tr ff (mm_ic 0 rfl (mm_ic 8 rfl (mm_ic 9 rfl (mm_ic 10 rfl (mm_ic 11 rfl (mm_ic 12 rfl (mm_ic 13 rfl (mm_ic 14 rfl mm_i0))))))))
      have hfck := fckR_ag hst9 (fun i hi => hrm c hc i hi) (rtn_ag (fun x hx => ⟨rfl, hN6 j hj x hx⟩) (hfs j hj)) hc hfck
      refine lv_istore_n (lv' := [(3, .int (nI k)), (0, .ref (md 0)), (1, .int (nI c)), (2, .int (nI fi))]) hx hb dX9_read_25 rfl hl (by decide) rfl (fun ls hl => ?_)
      refine lv_iload_n hx hb dX9_read_26 rfl (lv_at hl 0 rfl) ?_
      refine lv_if_le (tgt := 44) hx hb dX9_read_27 (by decide) (fun ck => ?_) (fun ck => ?_)
      · have ck : k ≤ 0 := (nI_leI (a := k) (b := 0) (by omega) (by omega)).mp ck
        have ek : 0 = k := by omega
        subst ek
        have hw12 := hN6 j hj fi hfi
        refine lv_bipush (v := nI 16) hx hb dX9_read_44 (by decide) ?_
        refine lv_aload_n hx hb dX9_read_46 rfl (lv_at hl 1 rfl) ?_
        refine mm_get S hC hR (C := RX9) (T := TX9) (N := 23) (ref := "ForkWatchModel") (v := .ref (md 7)) 7 h0 inRX9 rfl (by decide) (by decide +kernel) (fun _ h9 => h9) rfl dX9_read_47 ?_
        refine lv_iload_n hx hb dX9_read_50 rfl (lv_at hl 2 rfl) ?_
        refine mm_iald S hC hR h7 (j := c) (by omega) (by omega) dX9_read_51 ?_
        refine mm_eqi hs7 ?_
        refine lv_imul hx hb dX9_read_52 ?_
        refine mm_eqi (pk_mul _ _) ?_
        refine lv_iload_n hx hb dX9_read_53 rfl (lv_at hl 3 rfl) ?_
        refine lv_iadd hx hb dX9_read_54 ?_
        refine mm_eqi (nI_add _ _) ?_
        refine lv_istore (lv' := [(4, .int (nI (16 * j + fi))), (3, .int (nI 0)), (0, .ref (md 0)), (1, .int (nI c)), (2, .int (nI fi))]) hx hb dX9_read_55 hl (by decide) rfl (fun ls hl => ?_)
        refine lv_aload_n hx hb dX9_read_57 rfl (lv_at hl 2 rfl) ?_
        refine lv_aload_n hx hb dX9_read_58 rfl (lv_at hl 2 rfl) ?_
        refine mm_get S hC hR (C := RX9) (T := TX9) (N := 23) (ref := "ForkWatchModel") (v := .ref (md 6)) 5 h0 inRX9 rfl (by decide) (by decide +kernel) (fun _ h9 => h9) rfl dX9_read_59 ?_
        refine lv_iload hx hb dX9_read_62 (lv_at hl 0 rfl) ?_
        refine mm_iald S hC hR h6 (j := (16 * j + fi)) (by omega) (by omega) dX9_read_64 ?_
        refine mm_eqi (hfl j hj fi hfi) ?_
        refine mm_put S hC hR (C := RX9) (T := TX9) (N := 23) (ref := "ForkWatchModel") 11 h0 inRX9 rfl tyX9_ok nmX9 (by decide) (by decide +kernel) (fun _ h9 => h9) rfl rfl rfl (Nat.le_of_ble_eq_true rfl) dX9_read_65 (fun H locs M67 g69 f68 hR => ?_)
        have h3 := f68.at h3 (mm_nc (yne hJ (by decide) (by decide) (by decide)) mm_n0)
        have h4 := f68.at h4 (mm_nc (yne hJ (by decide) (by decide) (by decide)) mm_n0)
        have h5 := f68.at h5 (mm_nc (yne hJ (by decide) (by decide) (by decide)) mm_n0)
        have h6 := f68.at h6 (mm_nc (yne hJ (by decide) (by decide) (by decide)) mm_n0)
        have h7 := f68.at h7 (mm_nc (yne hJ (by decide) (by decide) (by decide)) mm_n0)
        have h8 := f68.at h8 (mm_nc (yne hJ (by decide) (by decide) (by decide)) mm_n0)
        have h9 := f68.at h9 (mm_nc (yne hJ (by decide) (by decide) (by decide)) mm_n0)
        have h15 := f68.at h15 (mm_nc (yne hJ (by decide) (by decide) (by decide)) mm_n0)
        have h16 := f68.at h16 (mm_nc (yne hJ (by decide) (by decide) (by decide)) mm_n0)
        have h10 := f68.at h10 (mm_nc (yne hJ (by decide) (by decide) (by decide)) mm_n0)
        have h11 := f68.at h11 (mm_nc (yne hJ (by decide) (by decide) (by decide)) mm_n0)
        have h0 : M67 (md 0) = some (ob 10 [.ref (md 1), .ref (md 2), .ref (md 3), .ref (md 4), .ref (md 5), .ref (md 6), .int (nI nw), .ref (md 7), .ref (md 8), .int (nI cl), .ref (md 9), .int (nI (wln j fi)), .int wl, .int sp, .ref (md 10), .int (nI 0), .ref (md 11), .ref (md 12), .ref (md 13), .ref (md 14), .ref (md 15), .ref (md 16), .int w22]) := g69
        have hF := hF.tr f68 (mm_ic 0 rfl mm_i0)
        have hS := hS.ob hJ f68 h0
        refine lv_iconst (v := nI 0) hx hb dX9_read_68 (by decide) ?_
        refine lv_istore (lv' := [(5, .int (nI 0)), (4, .int (nI (16 * j + fi))), (3, .int (nI 0)), (0, .ref (md 0)), (1, .int (nI c)), (2, .int (nI fi))]) hx hb dX9_read_69 hl (by decide) rfl (fun ls hl => ?_)
        have loopA : ∀ (n : Nat) (i : Nat)  (M1 : mm_M) (H : Heap) (locs : List Loc) (ls : Array Slot), (wln j fi < i + n) → (i ≤ wln j fi) → (yS G M1 md (nI nw) (nI cl) (nI (wln j fi)) wl sp w22 0 fb db) → (M1 (md 3) = some (ia G 2016 ss)) → (M1 (md 4) = some (ia G 336 rr0)) → (M1 (md 5) = some (ia G 1152 fs)) → (M1 (md 6) = some (ia G 96 fl)) → (M1 (md 7) = some (ia G 4 s7)) → (M1 (md 8) = some (ia G 64 cof)) → (M1 (md 9) = some (ia G 12 (va_cpy fs lrf (12 * (16 * j + fi)) 0 i))) → (M1 (md 15) = some (ia G 512 tb)) → (M1 (md 16) = some (ia G 64 pb)) → (mm_fr [md 0, md 3, md 4, md 5, md 6, md 7, md 8, md 9, md 10, md 11, md 12, md 13, md 14, md 15, md 16] M M1) → mm_R G s (mm_A M sz) M1 H locs → lv_has ls 6 [(0, .ref (md 0)), (1, .int (nI c)), (2, .int (nI fi)), (3, .int (nI 0)), (4, .int (nI (16 * j + fi))), (5, .int (nI i))] → W p0 l e0 ({ frames := 6, cells := 0, slots := 0, locals := 280 } : Room) s m0 ([.ref (md 0), .int x, .int y] : List Value).toArray be0 me0 c0 H locs 0 0 (MQ be0 (va_Qi (fun r M' => (r = -9 ∧ ¬ ((∃ j, j < 4 ∧ x = nI j) ∧ (∃ j, j < 16 ∧ y = nI j)) ∧ yA G M' md cl ll wl sp co lr sh rem nw wst wfc wln ∧ mm_fr [md 0, md 3, md 4, md 5, md 6, md 7, md 8, md 9, md 10, md 11, md 12, md 13, md 14, md 15, md 16] M M') ∨ ∃ c fi j, c < 4 ∧ fi < 16 ∧ j < nw ∧ sh c = j ∧ x = nI c ∧ y = nI fi ∧ ((∃ k, k ≠ 0 ∧ k ≤ 4 ∧ r = -1 - nI k ∧ fckR (wst j) (rem c) (rtn (wfc j) (wln j)) c k ∧ yA G M' md cl ll wl (sp + nI 1) co lr sh rem nw wst wfc wln ∧ mm_fr [md 0, md 3, md 4, md 5, md 6, md 7, md 8, md 9, md 10, md 11, md 12, md 13, md 14, md 15, md 16] M M') ∨ (r = nI (wln j fi) ∧ fckR (wst j) (rem c) (rtn (wfc j) (wln j)) c 0 ∧ yA G M' md cl (wln j fi) (wl + nI 1) sp co (va_cpy (wfc j) lr (fi * 12) 0 (wln j fi)) sh (updS rem c (nst (wst j) (rem c) (rtn (wfc j) (wln j)) c)) nw (updW wst j c (va_cpy (nst (wst j) (rem c) (rtn (wfc j) (wln j)) c) (wst j c) 0 0 84)) wfc wln ∧ mm_fr [md 0, md 3, md 4, md 5, md 6, md 7, md 8, md 9, md 10, md 11, md 12, md 13, md 14, md 15, md 16] M M'))) (fun M' t => mm_H G (mm_A M sz) M' t.heap) (mm_A M sz)) ([.ref (md 0), .int x, .int y] : List Value).toArray s 0 0 (mm_A M sz)) (F0 m0 71 ls []) := by
          intro n
          induction n with
          | zero =>
            intro i  M1 H locs ls hn hi hS h3 h4 h5 h6 h7 h8 h9 h15 h16 hF hR hl
            omega
          | succ n ih =>
            intro i  M1 H locs ls hn hi hS h3 h4 h5 h6 h7 h8 h9 h15 h16 hF hR hl
            have h0 : M1 (md 0) = some (ob 10 [.ref (md 1), .ref (md 2), .ref (md 3), .ref (md 4), .ref (md 5), .ref (md 6), .int (nI nw), .ref (md 7), .ref (md 8), .int (nI cl), .ref (md 9), .int (nI (wln j fi)), .int wl, .int sp, .ref (md 10), .int (nI 0), .ref (md 11), .ref (md 12), .ref (md 13), .ref (md 14), .ref (md 15), .ref (md 16), .int w22]) := hS.1
            have h10 : M1 (md 10) = some (ia G 256 fb) := hS.2.1
            have h11 : M1 (md 11) = some (ia G 32 db) := hS.2.2.1
            refine lv_iload hx hb dX9_read_71 (lv_at hl 5 rfl) ?_
            refine lv_aload_n hx hb dX9_read_73 rfl (lv_at hl 0 rfl) ?_
            refine mm_get S hC hR (C := RX9) (T := TX9) (N := 23) (ref := "ForkWatchModel") (v := .int (nI (wln j fi))) 11 h0 inRX9 rfl (by decide) (by decide +kernel) (fun _ h9 => h9) rfl dX9_read_74 ?_
            refine lv_icmp_ge (tgt := 106) hx hb dX9_read_77 (by decide) (fun c70 => ?_) (fun c70 => ?_)
            · have c70 : wln j fi ≤ i := (nI_leI (a := wln j fi) (b := i) (by omega) (by omega)).mp c70
              have e4 : wln j fi = i := by omega
              subst e4
              refine lv_aload_n hx hb dX9_read_106 rfl (lv_at hl 0 rfl) ?_
              refine lv_iload_n hx hb dX9_read_107 rfl (lv_at hl 1 rfl) ?_
              refine mm_callv hA hR (va_runV (As := [.int (nI c)]) (rest := []) S (c_X9_advance l G M1 _ md _ _ _ _ _ _ _ _ c j ss rr0 fs fl s7 _ _ (wln j) h3 h4 h5 h6 h7 h15 h16 hJ hS hc (by omega) hs7 hln hbf hbs ((inl_ag hst9).mpr (fck_in hfck).2.2.1) hbr) (cwV 1 S.2.2.2.2 gX9_read_X9_advance rfl rfl rfl (by decide +kernel) ⟨Nat.le_of_ble_eq_true rfl, Nat.le_of_ble_eq_true rfl⟩) (mm_preV hC hA hR _ h0 rfl) rfl rfl hl.1 rfl (lv_room (Nat.le_of_ble_eq_true rfl)) dX9_read_108 ⟨Nat.le_of_ble_eq_true rfl, Nat.le_of_ble_eq_true rfl⟩) (fun M72 H locs hp hR => ?_)
              obtain ⟨w23, fe, de, r5, te, pe, hS, h3, h4, h15, h16, hz1, hz2, ff⟩ := hp
              have h5 := ff.at h5 (mm_nc (yne hJ (by decide) (by decide) (by decide)) (mm_nc (yne hJ (by decide) (by decide) (by decide)) (mm_nc (yne hJ (by decide) (by decide) (by decide)) (mm_nc (yne hJ (by decide) (by decide) (by decide)) (mm_nc (yne hJ (by decide) (by decide) (by decide)) (mm_nc (yne hJ (by decide) (by decide) (by decide)) (mm_nc (yne hJ (by decide) (by decide) (by decide)) (mm_nc (yne hJ (by decide) (by decide) (by decide)) (mm_nc (yne hJ (by decide) (by decide) (by decide)) (mm_nc (yne hJ (by decide) (by decide) (by decide)) mm_n0))))))))))
              have h6 := ff.at h6 (mm_nc (yne hJ (by decide) (by decide) (by decide)) (mm_nc (yne hJ (by decide) (by decide) (by decide)) (mm_nc (yne hJ (by decide) (by decide) (by decide)) (mm_nc (yne hJ (by decide) (by decide) (by decide)) (mm_nc (yne hJ (by decide) (by decide) (by decide)) (mm_nc (yne hJ (by decide) (by decide) (by decide)) (mm_nc (yne hJ (by decide) (by decide) (by decide)) (mm_nc (yne hJ (by decide) (by decide) (by decide)) (mm_nc (yne hJ (by decide) (by decide) (by decide)) (mm_nc (yne hJ (by decide) (by decide) (by decide)) mm_n0))))))))))
              have h7 := ff.at h7 (mm_nc (yne hJ (by decide) (by decide) (by decide)) (mm_nc (yne hJ (by decide) (by decide) (by decide)) (mm_nc (yne hJ (by decide) (by decide) (by decide)) (mm_nc (yne hJ (by decide) (by decide) (by decide)) (mm_nc (yne hJ (by decide) (by decide) (by decide)) (mm_nc (yne hJ (by decide) (by decide) (by decide)) (mm_nc (yne hJ (by decide) (by decide) (by decide)) (mm_nc (yne hJ (by decide) (by decide) (by decide)) (mm_nc (yne hJ (by decide) (by decide) (by decide)) (mm_nc (yne hJ (by decide) (by decide) (by decide)) mm_n0))))))))))
              have h8 := ff.at h8 (mm_nc (yne hJ (by decide) (by decide) (by decide)) (mm_nc (yne hJ (by decide) (by decide) (by decide)) (mm_nc (yne hJ (by decide) (by decide) (by decide)) (mm_nc (yne hJ (by decide) (by decide) (by decide)) (mm_nc (yne hJ (by decide) (by decide) (by decide)) (mm_nc (yne hJ (by decide) (by decide) (by decide)) (mm_nc (yne hJ (by decide) (by decide) (by decide)) (mm_nc (yne hJ (by decide) (by decide) (by decide)) (mm_nc (yne hJ (by decide) (by decide) (by decide)) (mm_nc (yne hJ (by decide) (by decide) (by decide)) mm_n0))))))))))
              have h9 := ff.at h9 (mm_nc (yne hJ (by decide) (by decide) (by decide)) (mm_nc (yne hJ (by decide) (by decide) (by decide)) (mm_nc (yne hJ (by decide) (by decide) (by decide)) (mm_nc (yne hJ (by decide) (by decide) (by decide)) (mm_nc (yne hJ (by decide) (by decide) (by decide)) (mm_nc (yne hJ (by decide) (by decide) (by decide)) (mm_nc (yne hJ (by decide) (by decide) (by decide)) (mm_nc (yne hJ (by decide) (by decide) (by decide)) (mm_nc (yne hJ (by decide) (by decide) (by decide)) (mm_nc (yne hJ (by decide) (by decide) (by decide)) mm_n0))))))))))
              have h0 : M72 (md 0) = some (ob 10 [.ref (md 1), .ref (md 2), .ref (md 3), .ref (md 4), .ref (md 5), .ref (md 6), .int (nI nw), .ref (md 7), .ref (md 8), .int (nI cl), .ref (md 9), .int (nI (wln j fi)), .int (wl + nI 1), .int sp, .ref (md 10), .int (nI 0), .ref (md 11), .ref (md 12), .ref (md 13), .ref (md 14), .ref (md 15), .ref (md 16), .int w23]) := hS.1
              have h10 : M72 (md 10) = some (ia G 256 fe) := hS.2.1
              have h11 : M72 (md 11) = some (ia G 32 de) := hS.2.2.1
              have h15 : M72 (md 15) = some (ia G 512 te) := h15
              have h16 : M72 (md 16) = some (ia G 64 pe) := h16
              have h3 : M72 (md 3) = some (ia G 2016 (va_cpy r5 ss (84 * c) (84 * (4 * j + c)) 84)) := h3
              have h4 : M72 (md 4) = some (ia G 336 r5) := h4
              have hF := hF.tr ff (mm_ic 0 rfl (mm_ic 8 rfl (mm_ic 9 rfl (mm_ic 10 rfl (mm_ic 11 rfl (mm_ic 12 rfl (mm_ic 1 rfl (mm_ic 2 rfl (mm_ic 13 rfl (mm_ic 14 rfl mm_i0))))))))))
              refine lv_aload_n hx hb dX9_read_111 rfl (lv_at hl 0 rfl) ?_
              refine mm_get S hC hR (C := RX9) (T := TX9) (N := 23) (ref := "ForkWatchModel") (v := .int (nI (wln j fi))) 11 h0 inRX9 rfl (by decide) (by decide +kernel) (fun _ h9 => h9) rfl dX9_read_112 ?_
              have hy1 : ∀ i, i < 84 → r5 (84 * c + i) = (nst (wst j) (rem c) (rtn (wfc j) (wln j)) c) i := fun i hi => by rw [hz1 i hi]; exact nst_ag hst9 (fun i hi => hrm c hc i hi) (rtn_ag (fun x hx => ⟨rfl, hN6 j hj x hx⟩) (hfs j hj)) i hi
              have y4 : ∀ c', c' < 4 → ∀ i, i < 84 → r5 (84 * c' + i) = updS rem c (nst (wst j) (rem c) (rtn (wfc j) (wln j)) c) c' i := fun c' hc' i hi => by
                by_cases e : c' = c
                · rw [e, uS_s, hy1 i hi]
                · rw [uS_n e, hz2 _ (by omega), hrm c' hc' i hi]
              have y3 : ∀ j', j' < nw → ∀ c', c' < 4 → ∀ i, i < 84 → va_cpy r5 ss (84 * c) (84 * (4 * j + c)) 84 (84 * (4 * j' + c') + i) = updW wst j c (va_cpy (nst (wst j) (rem c) (rtn (wfc j) (wln j)) c) (wst j c) 0 0 84) j' c' i := fun j' hj' c' hc' i hi => by
                by_cases e : j' = j ∧ c' = c
                · obtain ⟨e1, e2⟩ := e
                  rw [e1, e2, uW_s, cpy_in (by omega) (by omega), cpy_in (by omega) (by omega), show 84 * c + (84 * (4 * j + c) + i - 84 * (4 * j + c)) = 84 * c + i by omega, hy1 i hi, show 0 + (i - 0) = i by omega]
                · rw [uW_n (by omega), cpy_out (by omega), hs j' hj' c' hc' i hi]
              have y9 : ∀ i, i < wln j fi → va_cpy fs lrf (12 * (16 * j + fi)) 0 (wln j fi) i = va_cpy (wfc j) lr (fi * 12) 0 (wln j fi) i := fun i hi => by
                rw [cpy_in (by omega) (by omega), cpy_in (by omega) (by omega), show 12 * (16 * j + fi) + (i - 0) = 192 * j + (fi * 12 + (i - 0)) by omega, hfs j hj _ (by omega)]
              exact mm_iret S hr hlocks hR (Or.inr ⟨c, fi, j, hc, hfi, hj, ej.symm, e_x, e_y, Or.inr ⟨rfl, hfck, ⟨⟨_, _, _, hS⟩, ⟨_, h3, y3⟩, ⟨_, h4, y4⟩, ⟨_, h5, hfs⟩, ⟨_, h6, hfl⟩, ⟨_, h7, hsh⟩, ⟨_, h8, hco⟩, ⟨_, h9, y9⟩, ⟨_, h15⟩, ⟨_, h16⟩⟩, hF⟩⟩) dX9_read_115
            · have c70 : ¬ (wln j fi ≤ i) := fun z => c70 ((nI_leI (a := wln j fi) (b := i) (by omega) (by omega)).mpr z)
              refine lv_aload_n hx hb dX9_read_80 rfl (lv_at hl 0 rfl) ?_
              refine mm_get S hC hR (C := RX9) (T := TX9) (N := 23) (ref := "ForkWatchModel") (v := .ref (md 9)) 10 h0 inRX9 rfl (by decide) (by decide +kernel) (fun _ h9 => h9) rfl dX9_read_81 ?_
              refine lv_iload hx hb dX9_read_84 (lv_at hl 5 rfl) ?_
              refine lv_aload_n hx hb dX9_read_86 rfl (lv_at hl 0 rfl) ?_
              refine mm_get S hC hR (C := RX9) (T := TX9) (N := 23) (ref := "ForkWatchModel") (v := .ref (md 5)) 4 h0 inRX9 rfl (by decide) (by decide +kernel) (fun _ h9 => h9) rfl dX9_read_87 ?_
              refine lv_bipush (v := nI 12) hx hb dX9_read_90 (by decide) ?_
              refine lv_iload hx hb dX9_read_92 (lv_at hl 4 rfl) ?_
              refine lv_imul hx hb dX9_read_94 ?_
              refine mm_eqi (pk_mul _ _) ?_
              refine lv_iload hx hb dX9_read_95 (lv_at hl 5 rfl) ?_
              refine lv_iadd hx hb dX9_read_97 ?_
              refine mm_eqi (nI_add _ _) ?_
              refine mm_iald S hC hR h5 (j := (12 * (16 * j + fi) + i)) (by omega) (by omega) dX9_read_98 ?_
              refine mm_iast S hC hR h9 (j := i) (by omega) (by omega) dX9_read_99 (fun H locs M73 g75 f74 hR => ?_)
              have h3 := f74.at h3 (mm_nc (yne hJ (by decide) (by decide) (by decide)) mm_n0)
              have h4 := f74.at h4 (mm_nc (yne hJ (by decide) (by decide) (by decide)) mm_n0)
              have h5 := f74.at h5 (mm_nc (yne hJ (by decide) (by decide) (by decide)) mm_n0)
              have h6 := f74.at h6 (mm_nc (yne hJ (by decide) (by decide) (by decide)) mm_n0)
              have h7 := f74.at h7 (mm_nc (yne hJ (by decide) (by decide) (by decide)) mm_n0)
              have h8 := f74.at h8 (mm_nc (yne hJ (by decide) (by decide) (by decide)) mm_n0)
              have h15 := f74.at h15 (mm_nc (yne hJ (by decide) (by decide) (by decide)) mm_n0)
              have h16 := f74.at h16 (mm_nc (yne hJ (by decide) (by decide) (by decide)) mm_n0)
              have h0 := f74.at h0 (mm_nc (yne hJ (by decide) (by decide) (by decide)) mm_n0)
              have h10 := f74.at h10 (mm_nc (yne hJ (by decide) (by decide) (by decide)) mm_n0)
              have h11 := f74.at h11 (mm_nc (yne hJ (by decide) (by decide) (by decide)) mm_n0)
              have h9 : M73 (md 9) = some (ia G 12 (upd (va_cpy fs lrf (12 * (16 * j + fi)) 0 i) i (fs (12 * (16 * j + fi) + i)))) := g75
              have hF := hF.tr f74 (mm_ic 7 rfl mm_i0)
              have hS := hS.out f74 (mm_nc (yne hJ (by decide) (by decide) (by decide)) mm_n0) (mm_nc (yne hJ (by decide) (by decide) (by decide)) mm_n0) (mm_nc (yne hJ (by decide) (by decide) (by decide)) mm_n0) (mm_nc (yne hJ (by decide) (by decide) (by decide)) mm_n0) (mm_nc (yne hJ (by decide) (by decide) (by decide)) mm_n0) (mm_nc (yne hJ (by decide) (by decide) (by decide)) mm_n0) (mm_nc (yne hJ (by decide) (by decide) (by decide)) mm_n0) (mm_nc (yne hJ (by decide) (by decide) (by decide)) mm_n0)
              refine lv_iinc (v := (nI (i + 1))) (lv' := [(5, .int (nI (i + 1))), (0, .ref (md 0)), (1, .int (nI c)), (2, .int (nI fi)), (3, .int (nI 0)), (4, .int (nI (16 * j + fi)))]) hx hb dX9_read_100 hl (k := 5) rfl (by rw [show Int32.ofInt 1 = nI 1 from by decide]; exact nI_add _ _) (by decide) rfl (fun ls hl => ?_)
              refine lv_goto (tgt := 71) hx hb dX9_read_103 (by decide) ?_
              exact ih (i + 1)  _ H locs ls (by omega) (by omega) hS h3 h4 h5 h6 h7 h8 (cellE h9 (by have h0 := cpy_s (s := fs) (d := lrf) (a := 12 * (16 * j + fi)) (b := 0) (i := i) rfl; rw [Nat.zero_add] at h0; exact h0)) h15 h16 hF hR (lv_sub hl [1, 2, 3, 4, 5, 0] rfl)
        exact loopA (wln j fi + 1) 0  _ _ _ ls (by omega) (by omega) hS h3 h4 h5 h6 h7 h8 (cellE h9 cpy_0.symm) h15 h16 hF hR (lv_sub hl [3, 4, 5, 2, 1, 0] rfl)
      · have ck : ¬ (k ≤ 0) := fun z => ck ((nI_leI (a := k) (b := 0) (by omega) (by omega)).mpr z)
        refine lv_aload_n hx hb dX9_read_30 rfl (lv_at hl 1 rfl) ?_
        refine lv_dup hx hb dX9_read_31 rfl ?_
        refine mm_get S hC hR (C := RX9) (T := TX9) (N := 23) (ref := "ForkWatchModel") (v := .int sp) 13 h0 inRX9 rfl (by decide) (by decide +kernel) (fun _ h9 => h9) rfl dX9_read_32 ?_
        refine lv_iconst (v := nI 1) hx hb dX9_read_35 (by decide) ?_
        refine lv_iadd hx hb dX9_read_36 ?_
        refine mm_put S hC hR (C := RX9) (T := TX9) (N := 23) (ref := "ForkWatchModel") 13 h0 inRX9 rfl tyX9_ok nmX9 (by decide) (by decide +kernel) (fun _ h9 => h9) rfl rfl rfl (Nat.le_of_ble_eq_true rfl) dX9_read_37 (fun H locs M76 g78 f77 hR => ?_)
        have h3 := f77.at h3 (mm_nc (yne hJ (by decide) (by decide) (by decide)) mm_n0)
        have h4 := f77.at h4 (mm_nc (yne hJ (by decide) (by decide) (by decide)) mm_n0)
        have h5 := f77.at h5 (mm_nc (yne hJ (by decide) (by decide) (by decide)) mm_n0)
        have h6 := f77.at h6 (mm_nc (yne hJ (by decide) (by decide) (by decide)) mm_n0)
        have h7 := f77.at h7 (mm_nc (yne hJ (by decide) (by decide) (by decide)) mm_n0)
        have h8 := f77.at h8 (mm_nc (yne hJ (by decide) (by decide) (by decide)) mm_n0)
        have h9 := f77.at h9 (mm_nc (yne hJ (by decide) (by decide) (by decide)) mm_n0)
        have h15 := f77.at h15 (mm_nc (yne hJ (by decide) (by decide) (by decide)) mm_n0)
        have h16 := f77.at h16 (mm_nc (yne hJ (by decide) (by decide) (by decide)) mm_n0)
        have h10 := f77.at h10 (mm_nc (yne hJ (by decide) (by decide) (by decide)) mm_n0)
        have h11 := f77.at h11 (mm_nc (yne hJ (by decide) (by decide) (by decide)) mm_n0)
        have h0 : M76 (md 0) = some (ob 10 [.ref (md 1), .ref (md 2), .ref (md 3), .ref (md 4), .ref (md 5), .ref (md 6), .int (nI nw), .ref (md 7), .ref (md 8), .int (nI cl), .ref (md 9), .int (nI ll), .int wl, .int (sp + (nI 1)), .ref (md 10), .int (nI 0), .ref (md 11), .ref (md 12), .ref (md 13), .ref (md 14), .ref (md 15), .ref (md 16), .int w22]) := g78
        have hF := hF.tr f77 (mm_ic 0 rfl mm_i0)
        have hS := hS.ob hJ f77 h0
        refine lv_iconst (v := -1) hx hb dX9_read_40 (by decide) ?_
        refine lv_iload_n hx hb dX9_read_41 rfl (lv_at hl 0 rfl) ?_
        refine lv_isub hx hb dX9_read_42 ?_
        exact mm_iret S hr hlocks hR (Or.inr ⟨c, fi, j, hc, hfi, hj, ej.symm, e_x, e_y, Or.inl ⟨k, by omega, hk4, rfl, hfck, ⟨⟨_, _, _, hS⟩, ⟨_, h3, hs⟩, ⟨_, h4, hrm⟩, ⟨_, h5, hfs⟩, ⟨_, h6, hfl⟩, ⟨_, h7, hsh⟩, ⟨_, h8, hco⟩, ⟨_, h9, hlr⟩, ⟨_, h15⟩, ⟨_, h16⟩⟩, hF⟩⟩) dX9_read_43
    · skip
      refine lv_if_ne (tgt := 20) hx hb dX9_read_14 (by decide) (fun z => by first | exact absurd z (by decide) | exact absurd (by decide) z) (fun _ => ?_)
      refine lv_bipush (v := -9) hx hb dX9_read_17 (by decide) ?_
      exact mm_iret S hr hlocks hR (Or.inl ⟨rfl, fun q => n_y q.2, hya0, hF⟩) dX9_read_19
  · skip
    refine lv_if_eq (tgt := 17) hx hb dX9_read_5 (by decide) (fun _ => ?_) (fun z => by first | exact absurd z (by decide) | exact absurd (by decide) z)
    refine lv_bipush (v := -9) hx hb dX9_read_17 (by decide) ?_
    exact mm_iret S hr hlocks hR (Or.inl ⟨rfl, fun q => n_x q.1, hya0, hF⟩) dX9_read_19
