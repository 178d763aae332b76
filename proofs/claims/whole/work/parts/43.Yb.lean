theorem kb54 : ∀ j, j < 64 → byt (kb (nI 54) j) := by unfold byt; decide +kernel
theorem kb92 : ∀ j, j < 64 → byt (kb (nI 92) j) := by unfold byt; decide +kernel

set_option maxHeartbeats 4000000 in
set_option maxRecDepth 100000 in
/-- addKey(side) -/
theorem c_X9_addKey (l : Launch) (G : mm_G) (M : mm_M) (sz : Nat) (md : Nat → Nat) (v6 v9 v11 v12 v13 v22 : Int32) (f d : Nat → Int32) (x : Int32)  (hJ : yI md) (hS : yS G M md v6 v9 v11 v12 v13 v22 0 f d) (hx8 : ∀ j, j < 64 → byt (kb x j)) : mm_v l yX9_addKey wsX9_addKey ({ frames := 1, cells := 0, slots := 0, locals := 50 } : Room) G ([.ref (md 0), .int x] : List Value) M sz (fun M' => ∃ f', yS G M' md v6 v9 v11 v12 v13 v22 64 f' d ∧ (∀ j, j < 64 → f' j = kb x j) ∧ mm_fr [md 0, md 10, md 11, md 13, md 14] M M') := by
  refine mm_enter (cc := cX9_addKey) (maxL := 3) (ret := none) _ (by decide) rfl (Nat.le_of_ble_eq_true rfl) ?_
  intro p0 e0 s m0 be0 me0 c0 ls S hr hlocks hname hA hC hR hl
  have hx := S.1
  have hb := S.2.1
  have hl : lv_has ls 3 [(0, .ref (md 0)), (1, .int x)] := hl
  have inRX9 : ∀ w ∈ wsX90, w ∈ wsX9_addKey := by decide +kernel
  have hF : mm_fr [md 0, md 10, md 11, md 13, md 14] M M := mm_fr.rf
  have h0 : M (md 0) = some (ob 10 [.ref (md 1), .ref (md 2), .ref (md 3), .ref (md 4), .ref (md 5), .ref (md 6), .int v6, .ref (md 7), .ref (md 8), .int v9, .ref (md 9), .int v11, .int v12, .int v13, .ref (md 10), .int (nI 0), .ref (md 11), .ref (md 12), .ref (md 13), .ref (md 14), .ref (md 15), .ref (md 16), .int v22]) := hS.1
  have h10 : M (md 10) = some (ia G 256 f) := hS.2.1
  have h11 : M (md 11) = some (ia G 32 d) := hS.2.2.1
  refine lv_iconst (v := nI 0) hx hb dX9_addKey_0 (by decide) ?_
  refine lv_istore_n (lv' := [(2, .int (nI 0)), (0, .ref (md 0)), (1, .int x)]) hx hb dX9_addKey_1 rfl hl (by decide) rfl (fun ls hl => ?_)
  have loop : ∀ (n : Nat) (i : Nat) (fm : Nat → Int32) (M1 : mm_M) (H : Heap) (locs : List Loc) (ls : Array Slot), (64 < i + n) → (i ≤ 64) → (yS G M1 md v6 v9 v11 v12 v13 v22 i fm d) → (∀ j, j < i → fm j = kb x j) → (mm_fr [md 0, md 10, md 11, md 13, md 14] M M1) → mm_R G s (mm_A M sz) M1 H locs → lv_has ls 3 [(0, .ref (md 0)), (1, .int x), (2, .int (nI i))] → W p0 l e0 ({ frames := 1, cells := 0, slots := 0, locals := 50 } : Room) s m0 ([.ref (md 0), .int x] : List Value).toArray be0 me0 c0 H locs 0 0 (MQ be0 (va_Qv (fun M' => ∃ f', yS G M' md v6 v9 v11 v12 v13 v22 64 f' d ∧ (∀ j, j < 64 → f' j = kb x j) ∧ mm_fr [md 0, md 10, md 11, md 13, md 14] M M') (fun M' t => mm_H G (mm_A M sz) M' t.heap) (mm_A M sz)) ([.ref (md 0), .int x] : List Value).toArray s 0 0 (mm_A M sz)) (F0 m0 2 ls []) := by
    intro n
    induction n with
    | zero =>
      intro i fm M1 H locs ls hn hi hS hm hF hR hl
      omega
    | succ n ih =>
      intro i fm M1 H locs ls hn hi hS hm hF hR hl
      have h0 : M1 (md 0) = some (ob 10 [.ref (md 1), .ref (md 2), .ref (md 3), .ref (md 4), .ref (md 5), .ref (md 6), .int v6, .ref (md 7), .ref (md 8), .int v9, .ref (md 9), .int v11, .int v12, .int v13, .ref (md 10), .int (nI i), .ref (md 11), .ref (md 12), .ref (md 13), .ref (md 14), .ref (md 15), .ref (md 16), .int v22]) := hS.1
      have h10 : M1 (md 10) = some (ia G 256 fm) := hS.2.1
      have h11 : M1 (md 11) = some (ia G 32 d) := hS.2.2.1
      refine lv_iload_n hx hb dX9_addKey_2 rfl (lv_at hl 2 rfl) ?_
      refine lv_bipush (v := nI 64) hx hb dX9_addKey_3 (by decide) ?_
      refine lv_icmp_ge (tgt := 33) hx hb dX9_addKey_5 (by decide) (fun c1 => ?_) (fun c1 => ?_)
      · have c1 : 64 ≤ i := (nI_leI (a := 64) (b := i) (by omega) (by omega)).mp c1
        have e4 : 64 = i := by omega
        subst e4
        exact mm_vret S hr hlocks hR ⟨_, hS, hm, hF⟩ dX9_addKey_33
      · have c1 : ¬ (64 ≤ i) := fun z => c1 ((nI_leI (a := 64) (b := i) (by omega) (by omega)).mpr z)
        refine lv_aload_n hx hb dX9_addKey_8 rfl (lv_at hl 0 rfl) ?_
        refine lv_iload_n hx hb dX9_addKey_9 rfl (lv_at hl 2 rfl) ?_
        refine lv_bipush (v := nI 32) hx hb dX9_addKey_10 (by decide) ?_
        refine lv_icmp_ge (tgt := 21) hx hb dX9_addKey_12 (by decide) (fun c2 => ?_) (fun c2 => ?_)
        · have c2 : 32 ≤ i := (nI_leI (a := 32) (b := i) (by omega) (by omega)).mp c2
          have ekb : kb x i = nI 0 ^^^ x := by unfold kb; rw [if_neg (by omega)]
          refine lv_iconst (v := nI 0) hx hb dX9_addKey_21 (by decide) ?_
          refine lv_iload_n hx hb dX9_addKey_22 rfl (lv_at hl 1 rfl) ?_
          refine lv_ixor hx hb dX9_addKey_23 ?_
          refine mm_callv hA hR (va_runV (As := [.int ((nI 0) ^^^ x)]) (rest := []) S (c_X9_add l G M1 _ md _ _ _ _ _ _ _ _ _ (nI 0 ^^^ x) hJ hS (by omega)) (cwV 1 S.2.2.2.2 gX9_addKey_X9_add rfl rfl rfl (by decide +kernel) ⟨Nat.le_of_ble_eq_true rfl, Nat.le_of_ble_eq_true rfl⟩) (mm_preV hC hA hR _ h0 rfl) rfl rfl hl.1 rfl (lv_room (Nat.le_of_ble_eq_true rfl)) dX9_addKey_24 ⟨Nat.le_of_ble_eq_true rfl, Nat.le_of_ble_eq_true rfl⟩) (fun M3 H locs hp hR => ?_)
          obtain ⟨hS, ff⟩ := hp
          have h0 : M3 (md 0) = some (ob 10 [.ref (md 1), .ref (md 2), .ref (md 3), .ref (md 4), .ref (md 5), .ref (md 6), .int v6, .ref (md 7), .ref (md 8), .int v9, .ref (md 9), .int v11, .int v12, .int v13, .ref (md 10), .int (nI (i + 1)), .ref (md 11), .ref (md 12), .ref (md 13), .ref (md 14), .ref (md 15), .ref (md 16), .int v22]) := hS.1
          have h10 : M3 (md 10) = some (ia G 256 (upd fm i ((nI 0 ^^^ x) &&& nI 255))) := hS.2.1
          have h11 : M3 (md 11) = some (ia G 32 d) := hS.2.2.1
          have hF := hF.tr ff (mm_ic 0 rfl (mm_ic 1 rfl (mm_ic 2 rfl (mm_ic 3 rfl (mm_ic 4 rfl mm_i0)))))
          have hm := mt_s hm (show (nI 0 ^^^ x) &&& nI 255 = kb x i by rw [← ekb]; exact hx8 i (by omega))
          refine lv_iinc (v := (nI (i + 1))) (lv' := [(2, .int (nI (i + 1))), (0, .ref (md 0)), (1, .int x)]) hx hb dX9_addKey_27 hl (k := 2) rfl (by rw [show Int32.ofInt 1 = nI 1 from by decide]; exact nI_add _ _) (by decide) rfl (fun ls hl => ?_)
          refine lv_goto (tgt := 2) hx hb dX9_addKey_30 (by decide) ?_
          exact ih (i + 1) _ _ H locs ls (by omega) (by omega) hS hm hF hR (lv_sub hl [1, 2, 0] rfl)
        · have c2 : ¬ (32 ≤ i) := fun z => c2 ((nI_leI (a := 32) (b := i) (by omega) (by omega)).mpr z)
          have ekb : kb x i = nI (i + 1) ^^^ x := by unfold kb; rw [if_pos (by omega)]
          refine lv_iload_n hx hb dX9_addKey_15 rfl (lv_at hl 2 rfl) ?_
          refine lv_iconst (v := nI 1) hx hb dX9_addKey_16 (by decide) ?_
          refine lv_iadd hx hb dX9_addKey_17 ?_
          refine mm_eqi (nI_add _ _) ?_
          refine lv_goto (tgt := 22) hx hb dX9_addKey_18 (by decide) ?_
          refine lv_iload_n hx hb dX9_addKey_22 rfl (lv_at hl 1 rfl) ?_
          refine lv_ixor hx hb dX9_addKey_23 ?_
          refine mm_callv hA hR (va_runV (As := [.int ((nI (i + 1)) ^^^ x)]) (rest := []) S (c_X9_add l G M1 _ md _ _ _ _ _ _ _ _ _ (nI (i + 1) ^^^ x) hJ hS (by omega)) (cwV 1 S.2.2.2.2 gX9_addKey_X9_add rfl rfl rfl (by decide +kernel) ⟨Nat.le_of_ble_eq_true rfl, Nat.le_of_ble_eq_true rfl⟩) (mm_preV hC hA hR _ h0 rfl) rfl rfl hl.1 rfl (lv_room (Nat.le_of_ble_eq_true rfl)) dX9_addKey_24 ⟨Nat.le_of_ble_eq_true rfl, Nat.le_of_ble_eq_true rfl⟩) (fun M5 H locs hp hR => ?_)
          obtain ⟨hS, ff⟩ := hp
          have h0 : M5 (md 0) = some (ob 10 [.ref (md 1), .ref (md 2), .ref (md 3), .ref (md 4), .ref (md 5), .ref (md 6), .int v6, .ref (md 7), .ref (md 8), .int v9, .ref (md 9), .int v11, .int v12, .int v13, .ref (md 10), .int (nI (i + 1)), .ref (md 11), .ref (md 12), .ref (md 13), .ref (md 14), .ref (md 15), .ref (md 16), .int v22]) := hS.1
          have h10 : M5 (md 10) = some (ia G 256 (upd fm i ((nI (i + 1) ^^^ x) &&& nI 255))) := hS.2.1
          have h11 : M5 (md 11) = some (ia G 32 d) := hS.2.2.1
          have hF := hF.tr ff (mm_ic 0 rfl (mm_ic 1 rfl (mm_ic 2 rfl (mm_ic 3 rfl (mm_ic 4 rfl mm_i0)))))
          have hm := mt_s hm (show (nI (i + 1) ^^^ x) &&& nI 255 = kb x i by rw [← ekb]; exact hx8 i (by omega))
          refine lv_iinc (v := (nI (i + 1))) (lv' := [(2, .int (nI (i + 1))), (0, .ref (md 0)), (1, .int x)]) hx hb dX9_addKey_27 hl (k := 2) rfl (by rw [show Int32.ofInt 1 = nI 1 from by decide]; exact nI_add _ _) (by decide) rfl (fun ls hl => ?_)
          refine lv_goto (tgt := 2) hx hb dX9_addKey_30 (by decide) ?_
          exact ih (i + 1) _ _ H locs ls (by omega) (by omega) hS hm hF hR (lv_sub hl [1, 2, 0] rfl)
  exact loop (64 + 1) 0 _ _ _ _ ls (by omega) (by omega) hS (fun j hj => absurd hj (Nat.not_lt_zero j)) hF hR (lv_sub hl [1, 2, 0] rfl)

set_option maxHeartbeats 4000000 in
set_option maxRecDepth 100000 in
/-- mac() -/
theorem c_X9_mac (l : Launch) (G : mm_G) (M : mm_M) (sz : Nat) (md : Nat → Nat) (v6 v9 v11 v12 v13 : Int32) (nz : Nat) (f d : Nat → Int32) (len : Nat) (p : Nat → Int32) (h16 : M (md 16) = some (ia G 64 p)) (hJ : yI md) (hS : yS G M md v6 v9 v11 v12 v13 (nI len) nz f d) (hlen : len ≤ 64) (hby : ∀ j, j < len → byt (p j)) : mm_v l yX9_mac wsX9_mac ({ frames := 3, cells := 0, slots := 0, locals := 150 } : Room) G ([.ref (md 0)] : List Value) M sz (fun M' => ∃ f' d', yS G M' md v6 v9 v11 v12 v13 (nI len) 0 f' d' ∧ (∀ i, i < 32 → d' i = macb len p i) ∧ mm_fr [md 0, md 10, md 11, md 12, md 13, md 14] M M') := by
  refine mm_enter (cc := cX9_mac) (maxL := 2) (ret := none) _ (by decide) rfl (Nat.le_of_ble_eq_true rfl) ?_
  intro p0 e0 s m0 be0 me0 c0 ls S hr hlocks hname hA hC hR hl
  have hx := S.1
  have hb := S.2.1
  have hl : lv_has ls 2 [(0, .ref (md 0))] := hl
  have inRX9 : ∀ w ∈ wsX90, w ∈ wsX9_mac := by decide +kernel
  have hF : mm_fr [md 0, md 10, md 11, md 12, md 13, md 14] M M := mm_fr.rf
  have h0 : M (md 0) = some (ob 10 [.ref (md 1), .ref (md 2), .ref (md 3), .ref (md 4), .ref (md 5), .ref (md 6), .int v6, .ref (md 7), .ref (md 8), .int v9, .ref (md 9), .int v11, .int v12, .int v13, .ref (md 10), .int (nI nz), .ref (md 11), .ref (md 12), .ref (md 13), .ref (md 14), .ref (md 15), .ref (md 16), .int (nI len)]) := hS.1
  have h10 : M (md 10) = some (ia G 256 f) := hS.2.1
  have h11 : M (md 11) = some (ia G 32 d) := hS.2.2.1
  refine lv_aload_n hx hb dX9_mac_0 rfl (lv_at hl 0 rfl) ?_
  refine lv_iconst (v := nI 0) hx hb dX9_mac_1 (by decide) ?_
  refine mm_put S hC hR (C := RX9) (T := TX9) (N := 23) (ref := "ForkWatchModel") 15 h0 inRX9 rfl tyX9_ok nmX9 (by decide) (by decide +kernel) (fun _ h9 => h9) rfl rfl rfl (Nat.le_of_ble_eq_true rfl) dX9_mac_2 (fun H locs M6 g8 f7 hR => ?_)
  have h16 := f7.at h16 (mm_nc (yne hJ (by decide) (by decide) (by decide)) mm_n0)
  have h10 := f7.at h10 (mm_nc (yne hJ (by decide) (by decide) (by decide)) mm_n0)
  have h11 := f7.at h11 (mm_nc (yne hJ (by decide) (by decide) (by decide)) mm_n0)
  have h0 : M6 (md 0) = some (ob 10 [.ref (md 1), .ref (md 2), .ref (md 3), .ref (md 4), .ref (md 5), .ref (md 6), .int v6, .ref (md 7), .ref (md 8), .int v9, .ref (md 9), .int v11, .int v12, .int v13, .ref (md 10), .int (nI 0), .ref (md 11), .ref (md 12), .ref (md 13), .ref (md 14), .ref (md 15), .ref (md 16), .int (nI len)]) := g8
  have hF := hF.tr f7 (mm_ic 0 rfl mm_i0)
  have hS := hS.ob hJ f7 h0
  refine lv_aload_n hx hb dX9_mac_5 rfl (lv_at hl 0 rfl) ?_
  refine lv_bipush (v := nI 54) hx hb dX9_mac_6 (by decide) ?_
  refine mm_callv hA hR (va_runV (As := [.int (nI 54)]) (rest := []) S (c_X9_addKey l G M6 _ md _ _ _ _ _ _ _ _ (nI 54) hJ hS kb54) (cwV 1 S.2.2.2.2 gX9_mac_X9_addKey rfl rfl rfl (by decide +kernel) ⟨Nat.le_of_ble_eq_true rfl, Nat.le_of_ble_eq_true rfl⟩) (mm_preV hC hA hR _ h0 rfl) rfl rfl hl.1 rfl (lv_room (Nat.le_of_ble_eq_true rfl)) dX9_mac_8 ⟨Nat.le_of_ble_eq_true rfl, Nat.le_of_ble_eq_true rfl⟩) (fun M10 H locs hp hR => ?_)
  obtain ⟨fa, hS, hm, ff⟩ := hp
  have h16 := ff.at h16 (mm_nc (yne hJ (by decide) (by decide) (by decide)) (mm_nc (yne hJ (by decide) (by decide) (by decide)) (mm_nc (yne hJ (by decide) (by decide) (by decide)) (mm_nc (yne hJ (by decide) (by decide) (by decide)) (mm_nc (yne hJ (by decide) (by decide) (by decide)) mm_n0)))))
  have h0 : M10 (md 0) = some (ob 10 [.ref (md 1), .ref (md 2), .ref (md 3), .ref (md 4), .ref (md 5), .ref (md 6), .int v6, .ref (md 7), .ref (md 8), .int v9, .ref (md 9), .int v11, .int v12, .int v13, .ref (md 10), .int (nI 64), .ref (md 11), .ref (md 12), .ref (md 13), .ref (md 14), .ref (md 15), .ref (md 16), .int (nI len)]) := hS.1
  have h10 : M10 (md 10) = some (ia G 256 fa) := hS.2.1
  have h11 : M10 (md 11) = some (ia G 32 d) := hS.2.2.1
  have hF := hF.tr ff (mm_ic 0 rfl (mm_ic 1 rfl (mm_ic 2 rfl (mm_ic 4 rfl (mm_ic 5 rfl mm_i0)))))
  refine lv_iconst (v := nI 0) hx hb dX9_mac_11 (by decide) ?_
  refine lv_istore_n (lv' := [(1, .int (nI 0)), (0, .ref (md 0))]) hx hb dX9_mac_12 rfl hl (by decide) rfl (fun ls hl => ?_)
  have hm : ∀ j, j < 64 + 0 → fa j = kcat (nI 54) p j := fun j hj => by rw [hm j (by omega)]; exact (kcat_lo (by omega)).symm
  have loopA : ∀ (n : Nat) (i : Nat) (fm : Nat → Int32) (M1 : mm_M) (H : Heap) (locs : List Loc) (ls : Array Slot), (len < i + n) → (i ≤ len) → (yS G M1 md v6 v9 v11 v12 v13 (nI len) (64 + i) fm d) → (M1 (md 16) = some (ia G 64 p)) → (∀ j, j < 64 + i → fm j = kcat (nI 54) p j) → (mm_fr [md 0, md 10, md 11, md 12, md 13, md 14] M M1) → mm_R G s (mm_A M sz) M1 H locs → lv_has ls 2 [(0, .ref (md 0)), (1, .int (nI i))] → W p0 l e0 ({ frames := 3, cells := 0, slots := 0, locals := 150 } : Room) s m0 ([.ref (md 0)] : List Value).toArray be0 me0 c0 H locs 0 0 (MQ be0 (va_Qv (fun M' => ∃ f' d', yS G M' md v6 v9 v11 v12 v13 (nI len) 0 f' d' ∧ (∀ i, i < 32 → d' i = macb len p i) ∧ mm_fr [md 0, md 10, md 11, md 12, md 13, md 14] M M') (fun M' t => mm_H G (mm_A M sz) M' t.heap) (mm_A M sz)) ([.ref (md 0)] : List Value).toArray s 0 0 (mm_A M sz)) (F0 m0 13 ls []) := by
    intro n
    induction n with
    | zero =>
      intro i fm M1 H locs ls hn hi hS h16 hm hF hR hl
      omega
    | succ n ih =>
      intro i fm M1 H locs ls hn hi hS h16 hm hF hR hl
      have h0 : M1 (md 0) = some (ob 10 [.ref (md 1), .ref (md 2), .ref (md 3), .ref (md 4), .ref (md 5), .ref (md 6), .int v6, .ref (md 7), .ref (md 8), .int v9, .ref (md 9), .int v11, .int v12, .int v13, .ref (md 10), .int (nI (64 + i)), .ref (md 11), .ref (md 12), .ref (md 13), .ref (md 14), .ref (md 15), .ref (md 16), .int (nI len)]) := hS.1
      have h10 : M1 (md 10) = some (ia G 256 fm) := hS.2.1
      have h11 : M1 (md 11) = some (ia G 32 d) := hS.2.2.1
      refine lv_iload_n hx hb dX9_mac_13 rfl (lv_at hl 1 rfl) ?_
      refine lv_aload_n hx hb dX9_mac_14 rfl (lv_at hl 0 rfl) ?_
      refine mm_get S hC hR (C := RX9) (T := TX9) (N := 23) (ref := "ForkWatchModel") (v := .int (nI len)) 22 h0 inRX9 rfl (by decide) (by decide +kernel) (fun _ h9 => h9) rfl dX9_mac_15 ?_
      refine lv_icmp_ge (tgt := 37) hx hb dX9_mac_18 (by decide) (fun c11 => ?_) (fun c11 => ?_)
      · have c11 : len ≤ i := (nI_leI (a := len) (b := i) (by omega) (by omega)).mp c11
        have e4 : len = i := by omega
        subst e4
        refine lv_aload_n hx hb dX9_mac_37 rfl (lv_at hl 0 rfl) ?_
        refine mm_callv hA hR (va_runV (As := []) (rest := []) S (c_X9_hash l G M1 _ md _ _ _ _ _ _ _ _ _ hJ hS (by omega)) (cwV 0 S.2.2.2.2 gX9_mac_X9_hash rfl rfl rfl (by decide +kernel) ⟨Nat.le_of_ble_eq_true rfl, Nat.le_of_ble_eq_true rfl⟩) (mm_preV hC hA hR _ h0 rfl) rfl rfl hl.1 rfl (lv_room (Nat.le_of_ble_eq_true rfl)) dX9_mac_38 ⟨Nat.le_of_ble_eq_true rfl, Nat.le_of_ble_eq_true rfl⟩) (fun M13 H locs hp hR => ?_)
        obtain ⟨fb, d1, hS, hd, ff⟩ := hp
        have h16 := ff.at h16 (mm_nc (yne hJ (by decide) (by decide) (by decide)) (mm_nc (yne hJ (by decide) (by decide) (by decide)) (mm_nc (yne hJ (by decide) (by decide) (by decide)) (mm_nc (yne hJ (by decide) (by decide) (by decide)) (mm_nc (yne hJ (by decide) (by decide) (by decide)) mm_n0)))))
        have h0 : M13 (md 0) = some (ob 10 [.ref (md 1), .ref (md 2), .ref (md 3), .ref (md 4), .ref (md 5), .ref (md 6), .int v6, .ref (md 7), .ref (md 8), .int v9, .ref (md 9), .int v11, .int v12, .int v13, .ref (md 10), .int (nI 0), .ref (md 11), .ref (md 12), .ref (md 13), .ref (md 14), .ref (md 15), .ref (md 16), .int (nI len)]) := hS.1
        have h10 : M13 (md 10) = some (ia G 256 fb) := hS.2.1
        have h11 : M13 (md 11) = some (ia G 32 d1) := hS.2.2.1
        have hF := hF.tr ff (mm_ic 0 rfl (mm_ic 1 rfl (mm_ic 2 rfl (mm_ic 4 rfl (mm_ic 5 rfl mm_i0)))))
        have hd : ∀ i, i < 32 → d1 i = dgb (64 + len) (kcat (nI 54) p) i := fun i hi => by rw [hd i hi, dgb_ag hm]
        obtain ⟨i12, h12⟩ := hS.2.2.2.2.2.1
        refine lv_iconst (v := nI 0) hx hb dX9_mac_41 (by decide) ?_
        refine lv_istore_n (lv' := [(1, .int (nI 0)), (0, .ref (md 0))]) hx hb dX9_mac_42 rfl hl (by decide) rfl (fun ls hl => ?_)
        have loopB : ∀ (n : Nat) (i : Nat)  (M1 : mm_M) (H : Heap) (locs : List Loc) (ls : Array Slot), (32 < i + n) → (i ≤ 32) → (yS G M1 md v6 v9 v11 v12 v13 (nI len) 0 fb d1) → (M1 (md 12) = some (ia G 32 (va_cpy d1 i12 0 0 i))) → (M1 (md 16) = some (ia G 64 p)) → (mm_fr [md 0, md 10, md 11, md 12, md 13, md 14] M M1) → mm_R G s (mm_A M sz) M1 H locs → lv_has ls 2 [(0, .ref (md 0)), (1, .int (nI i))] → W p0 l e0 ({ frames := 3, cells := 0, slots := 0, locals := 150 } : Room) s m0 ([.ref (md 0)] : List Value).toArray be0 me0 c0 H locs 0 0 (MQ be0 (va_Qv (fun M' => ∃ f' d', yS G M' md v6 v9 v11 v12 v13 (nI len) 0 f' d' ∧ (∀ i, i < 32 → d' i = macb len p i) ∧ mm_fr [md 0, md 10, md 11, md 12, md 13, md 14] M M') (fun M' t => mm_H G (mm_A M sz) M' t.heap) (mm_A M sz)) ([.ref (md 0)] : List Value).toArray s 0 0 (mm_A M sz)) (F0 m0 43 ls []) := by
          intro n
          induction n with
          | zero =>
            intro i  M1 H locs ls hn hi hS h12 h16 hF hR hl
            omega
          | succ n ih =>
            intro i  M1 H locs ls hn hi hS h12 h16 hF hR hl
            have h0 : M1 (md 0) = some (ob 10 [.ref (md 1), .ref (md 2), .ref (md 3), .ref (md 4), .ref (md 5), .ref (md 6), .int v6, .ref (md 7), .ref (md 8), .int v9, .ref (md 9), .int v11, .int v12, .int v13, .ref (md 10), .int (nI 0), .ref (md 11), .ref (md 12), .ref (md 13), .ref (md 14), .ref (md 15), .ref (md 16), .int (nI len)]) := hS.1
            have h10 : M1 (md 10) = some (ia G 256 fb) := hS.2.1
            have h11 : M1 (md 11) = some (ia G 32 d1) := hS.2.2.1
            refine lv_iload_n hx hb dX9_mac_43 rfl (lv_at hl 1 rfl) ?_
            refine lv_bipush (v := nI 32) hx hb dX9_mac_44 (by decide) ?_
            refine lv_icmp_ge (tgt := 67) hx hb dX9_mac_46 (by decide) (fun c14 => ?_) (fun c14 => ?_)
            · have c14 : 32 ≤ i := (nI_leI (a := 32) (b := i) (by omega) (by omega)).mp c14
              have e4 : 32 = i := by omega
              subst e4
              obtain ⟨q12, eq12⟩ : ∃ z : Nat → Int32, z = va_cpy d1 i12 0 0 32 := ⟨_, rfl⟩
              rw [← eq12] at h12
              have hq : ∀ i, i < 32 → q12 i = dgb (64 + len) (kcat (nI 54) p) i := fun i hi => by rw [eq12, cpy_in (by omega) (by omega), show 0 + (i - 0) = i by omega]; exact hd i hi
              refine lv_aload_n hx hb dX9_mac_67 rfl (lv_at hl 0 rfl) ?_
              refine lv_bipush (v := nI 92) hx hb dX9_mac_68 (by decide) ?_
              refine mm_callv hA hR (va_runV (As := [.int (nI 92)]) (rest := []) S (c_X9_addKey l G M1 _ md _ _ _ _ _ _ _ _ (nI 92) hJ hS kb92) (cwV 1 S.2.2.2.2 gX9_mac_X9_addKey rfl rfl rfl (by decide +kernel) ⟨Nat.le_of_ble_eq_true rfl, Nat.le_of_ble_eq_true rfl⟩) (mm_preV hC hA hR _ h0 rfl) rfl rfl hl.1 rfl (lv_room (Nat.le_of_ble_eq_true rfl)) dX9_mac_70 ⟨Nat.le_of_ble_eq_true rfl, Nat.le_of_ble_eq_true rfl⟩) (fun M16 H locs hp hR => ?_)
              obtain ⟨fc, hS, hm, ff⟩ := hp
              have h12 := ff.at h12 (mm_nc (yne hJ (by decide) (by decide) (by decide)) (mm_nc (yne hJ (by decide) (by decide) (by decide)) (mm_nc (yne hJ (by decide) (by decide) (by decide)) (mm_nc (yne hJ (by decide) (by decide) (by decide)) (mm_nc (yne hJ (by decide) (by decide) (by decide)) mm_n0)))))
              have h16 := ff.at h16 (mm_nc (yne hJ (by decide) (by decide) (by decide)) (mm_nc (yne hJ (by decide) (by decide) (by decide)) (mm_nc (yne hJ (by decide) (by decide) (by decide)) (mm_nc (yne hJ (by decide) (by decide) (by decide)) (mm_nc (yne hJ (by decide) (by decide) (by decide)) mm_n0)))))
              have h0 : M16 (md 0) = some (ob 10 [.ref (md 1), .ref (md 2), .ref (md 3), .ref (md 4), .ref (md 5), .ref (md 6), .int v6, .ref (md 7), .ref (md 8), .int v9, .ref (md 9), .int v11, .int v12, .int v13, .ref (md 10), .int (nI 64), .ref (md 11), .ref (md 12), .ref (md 13), .ref (md 14), .ref (md 15), .ref (md 16), .int (nI len)]) := hS.1
              have h10 : M16 (md 10) = some (ia G 256 fc) := hS.2.1
              have h11 : M16 (md 11) = some (ia G 32 d1) := hS.2.2.1
              have hF := hF.tr ff (mm_ic 0 rfl (mm_ic 1 rfl (mm_ic 2 rfl (mm_ic 4 rfl (mm_ic 5 rfl mm_i0)))))
              refine lv_iconst (v := nI 0) hx hb dX9_mac_73 (by decide) ?_
              refine lv_istore_n (lv' := [(1, .int (nI 0)), (0, .ref (md 0))]) hx hb dX9_mac_74 rfl hl (by decide) rfl (fun ls hl => ?_)
              have hm : ∀ j, j < 64 + 0 → fc j = kcat (nI 92) (dgb (64 + len) (kcat (nI 54) p)) j := fun j hj => by rw [hm j (by omega)]; exact (kcat_lo (by omega)).symm
              have loopC : ∀ (n : Nat) (i : Nat) (fm : Nat → Int32) (M1 : mm_M) (H : Heap) (locs : List Loc) (ls : Array Slot), (32 < i + n) → (i ≤ 32) → (yS G M1 md v6 v9 v11 v12 v13 (nI len) (64 + i) fm d1) → (M1 (md 12) = some (ia G 32 q12)) → (M1 (md 16) = some (ia G 64 p)) → (∀ j, j < 64 + i → fm j = kcat (nI 92) (dgb (64 + len) (kcat (nI 54) p)) j) → (mm_fr [md 0, md 10, md 11, md 12, md 13, md 14] M M1) → mm_R G s (mm_A M sz) M1 H locs → lv_has ls 2 [(0, .ref (md 0)), (1, .int (nI i))] → W p0 l e0 ({ frames := 3, cells := 0, slots := 0, locals := 150 } : Room) s m0 ([.ref (md 0)] : List Value).toArray be0 me0 c0 H locs 0 0 (MQ be0 (va_Qv (fun M' => ∃ f' d', yS G M' md v6 v9 v11 v12 v13 (nI len) 0 f' d' ∧ (∀ i, i < 32 → d' i = macb len p i) ∧ mm_fr [md 0, md 10, md 11, md 12, md 13, md 14] M M') (fun M' t => mm_H G (mm_A M sz) M' t.heap) (mm_A M sz)) ([.ref (md 0)] : List Value).toArray s 0 0 (mm_A M sz)) (F0 m0 75 ls []) := by
                intro n
                induction n with
                | zero =>
                  intro i fm M1 H locs ls hn hi hS h12 h16 hm hF hR hl
                  omega
                | succ n ih =>
                  intro i fm M1 H locs ls hn hi hS h12 h16 hm hF hR hl
                  have h0 : M1 (md 0) = some (ob 10 [.ref (md 1), .ref (md 2), .ref (md 3), .ref (md 4), .ref (md 5), .ref (md 6), .int v6, .ref (md 7), .ref (md 8), .int v9, .ref (md 9), .int v11, .int v12, .int v13, .ref (md 10), .int (nI (64 + i)), .ref (md 11), .ref (md 12), .ref (md 13), .ref (md 14), .ref (md 15), .ref (md 16), .int (nI len)]) := hS.1
                  have h10 : M1 (md 10) = some (ia G 256 fm) := hS.2.1
                  have h11 : M1 (md 11) = some (ia G 32 d1) := hS.2.2.1
                  refine lv_iload_n hx hb dX9_mac_75 rfl (lv_at hl 1 rfl) ?_
                  refine lv_bipush (v := nI 32) hx hb dX9_mac_76 (by decide) ?_
                  refine lv_icmp_ge (tgt := 97) hx hb dX9_mac_78 (by decide) (fun c17 => ?_) (fun c17 => ?_)
                  · have c17 : 32 ≤ i := (nI_leI (a := 32) (b := i) (by omega) (by omega)).mp c17
                    have e4 : 32 = i := by omega
                    subst e4
                    refine lv_aload_n hx hb dX9_mac_97 rfl (lv_at hl 0 rfl) ?_
                    refine mm_callv hA hR (va_runV (As := []) (rest := []) S (c_X9_hash l G M1 _ md _ _ _ _ _ _ _ _ _ hJ hS (by omega)) (cwV 0 S.2.2.2.2 gX9_mac_X9_hash rfl rfl rfl (by decide +kernel) ⟨Nat.le_of_ble_eq_true rfl, Nat.le_of_ble_eq_true rfl⟩) (mm_preV hC hA hR _ h0 rfl) rfl rfl hl.1 rfl (lv_room (Nat.le_of_ble_eq_true rfl)) dX9_mac_98 ⟨Nat.le_of_ble_eq_true rfl, Nat.le_of_ble_eq_true rfl⟩) (fun M19 H locs hp hR => ?_)
                    obtain ⟨fe, d2, hS, hd2, ff⟩ := hp
                    have h12 := ff.at h12 (mm_nc (yne hJ (by decide) (by decide) (by decide)) (mm_nc (yne hJ (by decide) (by decide) (by decide)) (mm_nc (yne hJ (by decide) (by decide) (by decide)) (mm_nc (yne hJ (by decide) (by decide) (by decide)) (mm_nc (yne hJ (by decide) (by decide) (by decide)) mm_n0)))))
                    have h16 := ff.at h16 (mm_nc (yne hJ (by decide) (by decide) (by decide)) (mm_nc (yne hJ (by decide) (by decide) (by decide)) (mm_nc (yne hJ (by decide) (by decide) (by decide)) (mm_nc (yne hJ (by decide) (by decide) (by decide)) (mm_nc (yne hJ (by decide) (by decide) (by decide)) mm_n0)))))
                    have h0 : M19 (md 0) = some (ob 10 [.ref (md 1), .ref (md 2), .ref (md 3), .ref (md 4), .ref (md 5), .ref (md 6), .int v6, .ref (md 7), .ref (md 8), .int v9, .ref (md 9), .int v11, .int v12, .int v13, .ref (md 10), .int (nI 0), .ref (md 11), .ref (md 12), .ref (md 13), .ref (md 14), .ref (md 15), .ref (md 16), .int (nI len)]) := hS.1
                    have h10 : M19 (md 10) = some (ia G 256 fe) := hS.2.1
                    have h11 : M19 (md 11) = some (ia G 32 d2) := hS.2.2.1
                    have hF := hF.tr ff (mm_ic 0 rfl (mm_ic 1 rfl (mm_ic 2 rfl (mm_ic 4 rfl (mm_ic 5 rfl mm_i0)))))
                    exact mm_vret S hr hlocks hR ⟨_, _, hS, fun i hi => by rw [hd2 i hi, dgb_ag hm]; rfl, hF⟩ dX9_mac_101
                  · have c17 : ¬ (32 ≤ i) := fun z => c17 ((nI_leI (a := 32) (b := i) (by omega) (by omega)).mpr z)
                    refine lv_aload_n hx hb dX9_mac_81 rfl (lv_at hl 0 rfl) ?_
                    refine lv_aload_n hx hb dX9_mac_82 rfl (lv_at hl 0 rfl) ?_
                    refine mm_get S hC hR (C := RX9) (T := TX9) (N := 23) (ref := "ForkWatchModel") (v := .ref (md 12)) 17 h0 inRX9 rfl (by decide) (by decide +kernel) (fun _ h9 => h9) rfl dX9_mac_83 ?_
                    refine lv_iload_n hx hb dX9_mac_86 rfl (lv_at hl 1 rfl) ?_
                    refine mm_iald S hC hR h12 (j := i) (by omega) (by omega) dX9_mac_87 ?_
                    refine mm_callv hA hR (va_runV (As := [.int (q12 i)]) (rest := []) S (c_X9_add l G M1 _ md _ _ _ _ _ _ _ _ _ (q12 i) hJ hS (by omega)) (cwV 1 S.2.2.2.2 gX9_mac_X9_add rfl rfl rfl (by decide +kernel) ⟨Nat.le_of_ble_eq_true rfl, Nat.le_of_ble_eq_true rfl⟩) (mm_preV hC hA hR _ h0 rfl) rfl rfl hl.1 rfl (lv_room (Nat.le_of_ble_eq_true rfl)) dX9_mac_88 ⟨Nat.le_of_ble_eq_true rfl, Nat.le_of_ble_eq_true rfl⟩) (fun M21 H locs hp hR => ?_)
                    obtain ⟨hS, ff⟩ := hp
                    have h12 := ff.at h12 (mm_nc (yne hJ (by decide) (by decide) (by decide)) (mm_nc (yne hJ (by decide) (by decide) (by decide)) (mm_nc (yne hJ (by decide) (by decide) (by decide)) (mm_nc (yne hJ (by decide) (by decide) (by decide)) (mm_nc (yne hJ (by decide) (by decide) (by decide)) mm_n0)))))
                    have h16 := ff.at h16 (mm_nc (yne hJ (by decide) (by decide) (by decide)) (mm_nc (yne hJ (by decide) (by decide) (by decide)) (mm_nc (yne hJ (by decide) (by decide) (by decide)) (mm_nc (yne hJ (by decide) (by decide) (by decide)) (mm_nc (yne hJ (by decide) (by decide) (by decide)) mm_n0)))))
                    have h0 : M21 (md 0) = some (ob 10 [.ref (md 1), .ref (md 2), .ref (md 3), .ref (md 4), .ref (md 5), .ref (md 6), .int v6, .ref (md 7), .ref (md 8), .int v9, .ref (md 9), .int v11, .int v12, .int v13, .ref (md 10), .int (nI (64 + i + 1)), .ref (md 11), .ref (md 12), .ref (md 13), .ref (md 14), .ref (md 15), .ref (md 16), .int (nI len)]) := hS.1
                    have h10 : M21 (md 10) = some (ia G 256 (upd fm (64 + i) ((q12 i) &&& nI 255))) := hS.2.1
                    have h11 : M21 (md 11) = some (ia G 32 d1) := hS.2.2.1
                    have hF := hF.tr ff (mm_ic 0 rfl (mm_ic 1 rfl (mm_ic 2 rfl (mm_ic 4 rfl (mm_ic 5 rfl mm_i0)))))
                    have hm := mt_s hm (show q12 i &&& nI 255 = kcat (nI 92) (dgb (64 + len) (kcat (nI 54) p)) (64 + i) by rw [kcat_hi, hq i (by omega)]; exact byt_dgb _ _ _)
                    refine lv_iinc (v := (nI (i + 1))) (lv' := [(1, .int (nI (i + 1))), (0, .ref (md 0))]) hx hb dX9_mac_91 hl (k := 1) rfl (by rw [show Int32.ofInt 1 = nI 1 from by decide]; exact nI_add _ _) (by decide) rfl (fun ls hl => ?_)
                    refine lv_goto (tgt := 75) hx hb dX9_mac_94 (by decide) ?_
                    exact ih (i + 1) _ _ H locs ls (by omega) (by omega) hS h12 h16 hm hF hR (lv_sub hl [1, 0] rfl)
              exact loopC (32 + 1) 0 _ _ _ _ ls (by omega) (by omega) hS h12 h16 hm hF hR (lv_sub hl [1, 0] rfl)
            · have c14 : ¬ (32 ≤ i) := fun z => c14 ((nI_leI (a := 32) (b := i) (by omega) (by omega)).mpr z)
              refine lv_aload_n hx hb dX9_mac_49 rfl (lv_at hl 0 rfl) ?_
              refine mm_get S hC hR (C := RX9) (T := TX9) (N := 23) (ref := "ForkWatchModel") (v := .ref (md 12)) 17 h0 inRX9 rfl (by decide) (by decide +kernel) (fun _ h9 => h9) rfl dX9_mac_50 ?_
              refine lv_iload_n hx hb dX9_mac_53 rfl (lv_at hl 1 rfl) ?_
              refine lv_aload_n hx hb dX9_mac_54 rfl (lv_at hl 0 rfl) ?_
              refine mm_get S hC hR (C := RX9) (T := TX9) (N := 23) (ref := "ForkWatchModel") (v := .ref (md 11)) 16 h0 inRX9 rfl (by decide) (by decide +kernel) (fun _ h9 => h9) rfl dX9_mac_55 ?_
              refine lv_iload_n hx hb dX9_mac_58 rfl (lv_at hl 1 rfl) ?_
              refine mm_iald S hC hR h11 (j := i) (by omega) (by omega) dX9_mac_59 ?_
              refine mm_iast S hC hR h12 (j := i) (by omega) (by omega) dX9_mac_60 (fun H locs M22 g24 f23 hR => ?_)
              have h16 := f23.at h16 (mm_nc (yne hJ (by decide) (by decide) (by decide)) mm_n0)
              have h0 := f23.at h0 (mm_nc (yne hJ (by decide) (by decide) (by decide)) mm_n0)
              have h10 := f23.at h10 (mm_nc (yne hJ (by decide) (by decide) (by decide)) mm_n0)
              have h11 := f23.at h11 (mm_nc (yne hJ (by decide) (by decide) (by decide)) mm_n0)
              have h12 : M22 (md 12) = some (ia G 32 (upd (va_cpy d1 i12 0 0 i) i (d1 i))) := g24
              have hF := hF.tr f23 (mm_ic 3 rfl mm_i0)
              have hS := hS.in12 hJ f23 h12
              refine lv_iinc (v := (nI (i + 1))) (lv' := [(1, .int (nI (i + 1))), (0, .ref (md 0))]) hx hb dX9_mac_61 hl (k := 1) rfl (by rw [show Int32.ofInt 1 = nI 1 from by decide]; exact nI_add _ _) (by decide) rfl (fun ls hl => ?_)
              refine lv_goto (tgt := 43) hx hb dX9_mac_64 (by decide) ?_
              exact ih (i + 1)  _ H locs ls (by omega) (by omega) hS (cellE h12 (cpy_s0 rfl)) h16 hF hR (lv_sub hl [1, 0] rfl)
        exact loopB (32 + 1) 0  _ _ _ ls (by omega) (by omega) hS (cellE h12 cpy_0.symm) h16 hF hR (lv_sub hl [1, 0] rfl)
      · have c11 : ¬ (len ≤ i) := fun z => c11 ((nI_leI (a := len) (b := i) (by omega) (by omega)).mpr z)
        refine lv_aload_n hx hb dX9_mac_21 rfl (lv_at hl 0 rfl) ?_
        refine lv_aload_n hx hb dX9_mac_22 rfl (lv_at hl 0 rfl) ?_
        refine mm_get S hC hR (C := RX9) (T := TX9) (N := 23) (ref := "ForkWatchModel") (v := .ref (md 16)) 21 h0 inRX9 rfl (by decide) (by decide +kernel) (fun _ h9 => h9) rfl dX9_mac_23 ?_
        refine lv_iload_n hx hb dX9_mac_26 rfl (lv_at hl 1 rfl) ?_
        refine mm_iald S hC hR h16 (j := i) (by omega) (by omega) dX9_mac_27 ?_
        refine mm_callv hA hR (va_runV (As := [.int (p i)]) (rest := []) S (c_X9_add l G M1 _ md _ _ _ _ _ _ _ _ _ (p i) hJ hS (by omega)) (cwV 1 S.2.2.2.2 gX9_mac_X9_add rfl rfl rfl (by decide +kernel) ⟨Nat.le_of_ble_eq_true rfl, Nat.le_of_ble_eq_true rfl⟩) (mm_preV hC hA hR _ h0 rfl) rfl rfl hl.1 rfl (lv_room (Nat.le_of_ble_eq_true rfl)) dX9_mac_28 ⟨Nat.le_of_ble_eq_true rfl, Nat.le_of_ble_eq_true rfl⟩) (fun M26 H locs hp hR => ?_)
        obtain ⟨hS, ff⟩ := hp
        have h16 := ff.at h16 (mm_nc (yne hJ (by decide) (by decide) (by decide)) (mm_nc (yne hJ (by decide) (by decide) (by decide)) (mm_nc (yne hJ (by decide) (by decide) (by decide)) (mm_nc (yne hJ (by decide) (by decide) (by decide)) (mm_nc (yne hJ (by decide) (by decide) (by decide)) mm_n0)))))
        have h0 : M26 (md 0) = some (ob 10 [.ref (md 1), .ref (md 2), .ref (md 3), .ref (md 4), .ref (md 5), .ref (md 6), .int v6, .ref (md 7), .ref (md 8), .int v9, .ref (md 9), .int v11, .int v12, .int v13, .ref (md 10), .int (nI (64 + i + 1)), .ref (md 11), .ref (md 12), .ref (md 13), .ref (md 14), .ref (md 15), .ref (md 16), .int (nI len)]) := hS.1
        have h10 : M26 (md 10) = some (ia G 256 (upd fm (64 + i) ((p i) &&& nI 255))) := hS.2.1
        have h11 : M26 (md 11) = some (ia G 32 d) := hS.2.2.1
        have hF := hF.tr ff (mm_ic 0 rfl (mm_ic 1 rfl (mm_ic 2 rfl (mm_ic 4 rfl (mm_ic 5 rfl mm_i0)))))
        have hm := mt_s hm (show p i &&& nI 255 = kcat (nI 54) p (64 + i) by rw [kcat_hi]; exact hby i (by omega))
        refine lv_iinc (v := (nI (i + 1))) (lv' := [(1, .int (nI (i + 1))), (0, .ref (md 0))]) hx hb dX9_mac_31 hl (k := 1) rfl (by rw [show Int32.ofInt 1 = nI 1 from by decide]; exact nI_add _ _) (by decide) rfl (fun ls hl => ?_)
        refine lv_goto (tgt := 13) hx hb dX9_mac_34 (by decide) ?_
        exact ih (i + 1) _ _ H locs ls (by omega) (by omega) hS h16 hm hF hR (lv_sub hl [1, 0] rfl)
  exact loopA (len + 1) 0 _ _ _ _ ls (by omega) (by omega) hS h16 hm hF hR (lv_sub hl [1, 0] rfl)
