set_option maxHeartbeats 4000000 in
set_option maxRecDepth 100000 in
/-- hash() -/
theorem c_X9_hash (l : Launch) (G : mm_G) (M : mm_M) (sz : Nat) (md : Nat → Nat) (v6 v9 v11 v12 v13 v22 : Int32) (nz : Nat) (f d : Nat → Int32)   (hJ : yI md) (hS : yS G M md v6 v9 v11 v12 v13 v22 nz f d) (hz : nz ≤ 128) : mm_v l yX9_hash wsX9_hash ({ frames := 2, cells := 0, slots := 0, locals := 110 } : Room) G ([.ref (md 0)] : List Value) M sz (fun M' => ∃ f' d', yS G M' md v6 v9 v11 v12 v13 v22 0 f' d' ∧ (∀ i, i < 32 → d' i = dgb nz f i) ∧ mm_fr [md 0, md 10, md 11, md 13, md 14] M M') := by
  refine mm_enter (cc := cX9_hash) (maxL := 3) (ret := none) _ (by decide) rfl (Nat.le_of_ble_eq_true rfl) ?_
  intro p0 e0 s m0 be0 me0 c0 ls S hr hlocks hname hA hC hR hl
  have hx := S.1
  have hb := S.2.1
  have hl : lv_has ls 3 [(0, .ref (md 0))] := hl
  have inRX9 : ∀ w ∈ wsX90, w ∈ wsX9_hash := by decide +kernel
  have hF : mm_fr [md 0, md 10, md 11, md 13, md 14] M M := mm_fr.rf
  obtain ⟨h0, h10, h11, ⟨kk, h1, hK⟩, ⟨bb, h2, hB⟩, ⟨i12, h12⟩, ⟨g13, h13⟩, ⟨t14, h14⟩⟩ := hS
  obtain ⟨Z, hZ⟩ : ∃ z, z = 64 * ((nz + 72) / 64) - 8 := ⟨_, rfl⟩
  refine lv_bipush (v := nI 8) hx hb dX9_hash_0 (by decide) ?_
  refine lv_aload_n hx hb dX9_hash_2 rfl (lv_at hl 0 rfl) ?_
  refine mm_get S hC hR (C := RX9) (T := TX9) (N := 23) (ref := "ForkWatchModel") (v := .int (nI nz)) 15 h0 inRX9 rfl (by decide) (by decide +kernel) (fun _ h9 => h9) rfl dX9_hash_3 ?_
  refine lv_imul hx hb dX9_hash_6 ?_
  refine mm_eqi (pk_mul _ _) ?_
  refine lv_istore_n (lv' := [(1, .int (nI (8 * nz))), (0, .ref (md 0))]) hx hb dX9_hash_7 rfl hl (by decide) rfl (fun ls hl => ?_)
  refine lv_aload_n hx hb dX9_hash_8 rfl (lv_at hl 1 rfl) ?_
  refine lv_sipush (v := nI 128) hx hb dX9_hash_9 (by decide) ?_
  have hm : ∀ j, j < nz → f j = padm nz f j := fun j hj => (padm_lt hj).symm
  refine mm_callv hA hR (va_runV (As := [.int (nI 128)]) (rest := []) S (c_X9_add l G M _ md _ _ _ _ _ _ _ _ _ (nI 128) hJ ⟨h0, h10, h11, ⟨_, h1, hK⟩, ⟨_, h2, hB⟩, ⟨_, h12⟩, ⟨_, h13⟩, ⟨_, h14⟩⟩ (by omega)) (cwV 1 S.2.2.2.2 gX9_hash_X9_add rfl rfl rfl (by decide +kernel) ⟨Nat.le_of_ble_eq_true rfl, Nat.le_of_ble_eq_true rfl⟩) (mm_preV hC hA hR _ h0 rfl) rfl rfl hl.1 rfl (lv_room (Nat.le_of_ble_eq_true rfl)) dX9_hash_12 ⟨Nat.le_of_ble_eq_true rfl, Nat.le_of_ble_eq_true rfl⟩) (fun M82 H locs hp hR => ?_)
  obtain ⟨⟨h0, h10, h11, ⟨kk, h1, hK⟩, ⟨bb, h2, hB⟩, ⟨i12, h12⟩, ⟨g13, h13⟩, ⟨t14, h14⟩⟩, ff⟩ := hp
  have h0 : M82 (md 0) = some (ob 10 [.ref (md 1), .ref (md 2), .ref (md 3), .ref (md 4), .ref (md 5), .ref (md 6), .int v6, .ref (md 7), .ref (md 8), .int v9, .ref (md 9), .int v11, .int v12, .int v13, .ref (md 10), .int (nI (nz + 1)), .ref (md 11), .ref (md 12), .ref (md 13), .ref (md 14), .ref (md 15), .ref (md 16), .int v22]) := h0
  have h10 : M82 (md 10) = some (ia G 256 (upd f nz ((nI 128) &&& nI 255))) := h10
  have h11 : M82 (md 11) = some (ia G 32 d) := h11
  have h1 : M82 (md 1) = some (ia G 64 kk) := h1
  have h2 : M82 (md 2) = some (ia G 8 bb) := h2
  have h12 : M82 (md 12) = some (ia G 32 i12) := h12
  have h13 : M82 (md 13) = some (ia G 64 g13) := h13
  have h14 : M82 (md 14) = some (ia G 8 t14) := h14
  have hF := hF.tr ff (mm_ic 0 rfl (mm_ic 1 rfl (mm_ic 2 rfl (mm_ic 3 rfl (mm_ic 4 rfl mm_i0)))))
  have hm : ∀ j, j < nz + 1 → (upd f nz ((nI 128) &&& nI 255)) j = padm nz f j := mt_s hm (by rw [padm_e]; decide)
  obtain ⟨fm83, efm83⟩ : ∃ z : Nat → Int32, z = upd f nz ((nI 128) &&& nI 255) := ⟨_, rfl⟩
  rw [← efm83] at h10
  rw [← efm83] at hm
  have hS := (show yS G _ md v6 v9 v11 v12 v13 v22 _ _ _ from ⟨h0, h10, h11, ⟨_, h1, hK⟩, ⟨_, h2, hB⟩, ⟨_, h12⟩, ⟨_, h13⟩, ⟨_, h14⟩⟩)
  have loopA : ∀ (n : Nat) (k : Nat) (fm : Nat → Int32) (M1 : mm_M) (H : Heap) (locs : List Loc) (ls : Array Slot), (Z < k + n) → (nz + 1 ≤ k) → (k ≤ Z) → (yS G M1 md v6 v9 v11 v12 v13 v22 k fm d) → (∀ j, j < k → fm j = padm nz f j) → (mm_fr [md 0, md 10, md 11, md 13, md 14] M M1) → mm_R G s (mm_A M sz) M1 H locs → lv_has ls 3 [(0, .ref (md 0)), (1, .int (nI (8 * nz)))] → W p0 l e0 ({ frames := 2, cells := 0, slots := 0, locals := 110 } : Room) s m0 ([.ref (md 0)] : List Value).toArray be0 me0 c0 H locs 0 0 (MQ be0 (va_Qv (fun M' => ∃ f' d', yS G M' md v6 v9 v11 v12 v13 v22 0 f' d' ∧ (∀ i, i < 32 → d' i = dgb nz f i) ∧ mm_fr [md 0, md 10, md 11, md 13, md 14] M M') (fun M' t => mm_H G (mm_A M sz) M' t.heap) (mm_A M sz)) ([.ref (md 0)] : List Value).toArray s 0 0 (mm_A M sz)) (F0 m0 15 ls []) := by
    intro n
    induction n with
    | zero =>
      intro k fm M1 H locs ls hn hk1 hk2 hS hm hF hR hl
      omega
    | succ n ih =>
      intro k fm M1 H locs ls hn hk1 hk2 hS hm hF hR hl
      obtain ⟨h0, h10, h11, ⟨kk, h1, hK⟩, ⟨bb, h2, hB⟩, ⟨i12, h12⟩, ⟨g13, h13⟩, ⟨t14, h14⟩⟩ := hS
      refine lv_aload_n hx hb dX9_hash_15 rfl (lv_at hl 0 rfl) ?_
      refine mm_get S hC hR (C := RX9) (T := TX9) (N := 23) (ref := "ForkWatchModel") (v := .int (nI k)) 15 h0 inRX9 rfl (by decide) (by decide +kernel) (fun _ h9 => h9) rfl dX9_hash_16 ?_
      refine lv_bipush (v := nI 64) hx hb dX9_hash_19 (by decide) ?_
      refine lv_irem hx hb dX9_hash_21 (by first | decide | (exact nI_ne0 (by omega) (by omega))) ?_
      refine mm_eqi (pk_rem (by omega) (by omega) (by omega)) ?_
      refine lv_bipush (v := nI 56) hx hb dX9_hash_22 (by decide) ?_
      refine lv_icmp_eq (tgt := 35) hx hb dX9_hash_24 (by decide) (fun c1 => ?_) (fun c1 => ?_)
      · have c1 : k % 64 = 56 := (nI_eq (a := k % 64) (b := 56) (by omega) (by omega)).mp c1
        have e4 : Z = k := by omega
        subst e4
        refine lv_iconst (v := nI 0) hx hb dX9_hash_35 (by decide) ?_
        refine lv_istore_n (lv' := [(2, .int (nI 0)), (0, .ref (md 0)), (1, .int (nI (8 * nz)))]) hx hb dX9_hash_36 rfl hl (by decide) rfl (fun ls hl => ?_)
        have hS := (show yS G _ md v6 v9 v11 v12 v13 v22 _ _ _ from ⟨h0, h10, h11, ⟨_, h1, hK⟩, ⟨_, h2, hB⟩, ⟨_, h12⟩, ⟨_, h13⟩, ⟨_, h14⟩⟩)
        have loopB : ∀ (n : Nat) (i : Nat) (fm : Nat → Int32) (M1 : mm_M) (H : Heap) (locs : List Loc) (ls : Array Slot), (4 < i + n) → (i ≤ 4) → (yS G M1 md v6 v9 v11 v12 v13 v22 (Z + i) fm d) → (∀ j, j < Z + i → fm j = padm nz f j) → (mm_fr [md 0, md 10, md 11, md 13, md 14] M M1) → mm_R G s (mm_A M sz) M1 H locs → lv_has ls 3 [(0, .ref (md 0)), (1, .int (nI (8 * nz))), (2, .int (nI i))] → W p0 l e0 ({ frames := 2, cells := 0, slots := 0, locals := 110 } : Room) s m0 ([.ref (md 0)] : List Value).toArray be0 me0 c0 H locs 0 0 (MQ be0 (va_Qv (fun M' => ∃ f' d', yS G M' md v6 v9 v11 v12 v13 v22 0 f' d' ∧ (∀ i, i < 32 → d' i = dgb nz f i) ∧ mm_fr [md 0, md 10, md 11, md 13, md 14] M M') (fun M' t => mm_H G (mm_A M sz) M' t.heap) (mm_A M sz)) ([.ref (md 0)] : List Value).toArray s 0 0 (mm_A M sz)) (F0 m0 37 ls []) := by
          intro n
          induction n with
          | zero =>
            intro i fm M1 H locs ls hn hi hS hm hF hR hl
            omega
          | succ n ih =>
            intro i fm M1 H locs ls hn hi hS hm hF hR hl
            obtain ⟨h0, h10, h11, ⟨kk, h1, hK⟩, ⟨bb, h2, hB⟩, ⟨i12, h12⟩, ⟨g13, h13⟩, ⟨t14, h14⟩⟩ := hS
            refine lv_iload_n hx hb dX9_hash_37 rfl (lv_at hl 2 rfl) ?_
            refine lv_iconst (v := nI 4) hx hb dX9_hash_38 (by decide) ?_
            refine lv_icmp_ge (tgt := 53) hx hb dX9_hash_39 (by decide) (fun c2 => ?_) (fun c2 => ?_)
            · have c2 : 4 ≤ i := (nI_leI (a := 4) (b := i) (by omega) (by omega)).mp c2
              have e4 : 4 = i := by omega
              subst e4
              refine lv_aload_n hx hb dX9_hash_53 rfl (lv_at hl 0 rfl) ?_
              refine lv_iload_n hx hb dX9_hash_54 rfl (lv_at hl 1 rfl) ?_
              refine lv_bipush (v := nI 24) hx hb dX9_hash_55 (by decide) ?_
              refine lv_ishr hx hb dX9_hash_57 ?_
              refine mm_eqi (pk_shrN (by omega) _ 24 (by decide)) ?_
              refine mm_callv hA hR (va_runV (As := [.int (nI ((8 * nz) / 2 ^ 24))]) (rest := []) S (c_X9_add l G M1 _ md _ _ _ _ _ _ _ _ _ (nI (8 * nz / 2 ^ 24)) hJ ⟨h0, h10, h11, ⟨_, h1, hK⟩, ⟨_, h2, hB⟩, ⟨_, h12⟩, ⟨_, h13⟩, ⟨_, h14⟩⟩ (by omega)) (cwV 1 S.2.2.2.2 gX9_hash_X9_add rfl rfl rfl (by decide +kernel) ⟨Nat.le_of_ble_eq_true rfl, Nat.le_of_ble_eq_true rfl⟩) (mm_preV hC hA hR _ h0 rfl) rfl rfl hl.1 rfl (lv_room (Nat.le_of_ble_eq_true rfl)) dX9_hash_58 ⟨Nat.le_of_ble_eq_true rfl, Nat.le_of_ble_eq_true rfl⟩) (fun M88 H locs hp hR => ?_)
              obtain ⟨⟨h0, h10, h11, ⟨kk, h1, hK⟩, ⟨bb, h2, hB⟩, ⟨i12, h12⟩, ⟨g13, h13⟩, ⟨t14, h14⟩⟩, ff⟩ := hp
              have h0 : M88 (md 0) = some (ob 10 [.ref (md 1), .ref (md 2), .ref (md 3), .ref (md 4), .ref (md 5), .ref (md 6), .int v6, .ref (md 7), .ref (md 8), .int v9, .ref (md 9), .int v11, .int v12, .int v13, .ref (md 10), .int (nI (Z + 4 + 1)), .ref (md 11), .ref (md 12), .ref (md 13), .ref (md 14), .ref (md 15), .ref (md 16), .int v22]) := h0
              have h10 : M88 (md 10) = some (ia G 256 (upd fm (Z + 4) ((nI (8 * nz / 2 ^ 24)) &&& nI 255))) := h10
              have h11 : M88 (md 11) = some (ia G 32 d) := h11
              have h1 : M88 (md 1) = some (ia G 64 kk) := h1
              have h2 : M88 (md 2) = some (ia G 8 bb) := h2
              have h12 : M88 (md 12) = some (ia G 32 i12) := h12
              have h13 : M88 (md 13) = some (ia G 64 g13) := h13
              have h14 : M88 (md 14) = some (ia G 8 t14) := h14
              have hF := hF.tr ff (mm_ic 0 rfl (mm_ic 1 rfl (mm_ic 2 rfl (mm_ic 3 rfl (mm_ic 4 rfl mm_i0)))))
              have hm : ∀ j, j < Z + 4 + 1 → (upd fm (Z + 4) ((nI (8 * nz / 2 ^ 24)) &&& nI 255)) j = padm nz f j := mt_s hm (by rw [padm_h (i := 4) (by omega) (by omega)]; exact lb_4 nz (by omega))
              obtain ⟨fm89, efm89⟩ : ∃ z : Nat → Int32, z = upd fm (Z + 4) ((nI (8 * nz / 2 ^ 24)) &&& nI 255) := ⟨_, rfl⟩
              rw [← efm89] at h10
              rw [← efm89] at hm
              refine lv_aload_n hx hb dX9_hash_61 rfl (lv_at hl 0 rfl) ?_
              refine lv_iload_n hx hb dX9_hash_62 rfl (lv_at hl 1 rfl) ?_
              refine lv_bipush (v := nI 16) hx hb dX9_hash_63 (by decide) ?_
              refine lv_ishr hx hb dX9_hash_65 ?_
              refine mm_eqi (pk_shrN (by omega) _ 16 (by decide)) ?_
              refine mm_callv hA hR (va_runV (As := [.int (nI ((8 * nz) / 2 ^ 16))]) (rest := []) S (c_X9_add l G M88 _ md _ _ _ _ _ _ _ _ _ (nI (8 * nz / 2 ^ 16)) hJ ⟨h0, h10, h11, ⟨_, h1, hK⟩, ⟨_, h2, hB⟩, ⟨_, h12⟩, ⟨_, h13⟩, ⟨_, h14⟩⟩ (by omega)) (cwV 1 S.2.2.2.2 gX9_hash_X9_add rfl rfl rfl (by decide +kernel) ⟨Nat.le_of_ble_eq_true rfl, Nat.le_of_ble_eq_true rfl⟩) (mm_preV hC hA hR _ h0 rfl) rfl rfl hl.1 rfl (lv_room (Nat.le_of_ble_eq_true rfl)) dX9_hash_66 ⟨Nat.le_of_ble_eq_true rfl, Nat.le_of_ble_eq_true rfl⟩) (fun M91 H locs hp hR => ?_)
              obtain ⟨⟨h0, h10, h11, ⟨kk, h1, hK⟩, ⟨bb, h2, hB⟩, ⟨i12, h12⟩, ⟨g13, h13⟩, ⟨t14, h14⟩⟩, ff⟩ := hp
              have h0 : M91 (md 0) = some (ob 10 [.ref (md 1), .ref (md 2), .ref (md 3), .ref (md 4), .ref (md 5), .ref (md 6), .int v6, .ref (md 7), .ref (md 8), .int v9, .ref (md 9), .int v11, .int v12, .int v13, .ref (md 10), .int (nI (Z + 4 + 1 + 1)), .ref (md 11), .ref (md 12), .ref (md 13), .ref (md 14), .ref (md 15), .ref (md 16), .int v22]) := h0
              have h10 : M91 (md 10) = some (ia G 256 (upd fm89 (Z + 4 + 1) ((nI (8 * nz / 2 ^ 16)) &&& nI 255))) := h10
              have h11 : M91 (md 11) = some (ia G 32 d) := h11
              have h1 : M91 (md 1) = some (ia G 64 kk) := h1
              have h2 : M91 (md 2) = some (ia G 8 bb) := h2
              have h12 : M91 (md 12) = some (ia G 32 i12) := h12
              have h13 : M91 (md 13) = some (ia G 64 g13) := h13
              have h14 : M91 (md 14) = some (ia G 8 t14) := h14
              have hF := hF.tr ff (mm_ic 0 rfl (mm_ic 1 rfl (mm_ic 2 rfl (mm_ic 3 rfl (mm_ic 4 rfl mm_i0)))))
              have hm : ∀ j, j < Z + 4 + 1 + 1 → (upd fm89 (Z + 4 + 1) ((nI (8 * nz / 2 ^ 16)) &&& nI 255)) j = padm nz f j := mt_s hm (by rw [padm_h (i := 5) (by omega) (by omega)]; exact lb_5 nz (by omega))
              obtain ⟨fm92, efm92⟩ : ∃ z : Nat → Int32, z = upd fm89 (Z + 4 + 1) ((nI (8 * nz / 2 ^ 16)) &&& nI 255) := ⟨_, rfl⟩
              rw [← efm92] at h10
              rw [← efm92] at hm
              refine lv_aload_n hx hb dX9_hash_69 rfl (lv_at hl 0 rfl) ?_
              refine lv_iload_n hx hb dX9_hash_70 rfl (lv_at hl 1 rfl) ?_
              refine lv_bipush (v := nI 8) hx hb dX9_hash_71 (by decide) ?_
              refine lv_ishr hx hb dX9_hash_73 ?_
              refine mm_eqi (pk_shrN (by omega) _ 8 (by decide)) ?_
              refine mm_callv hA hR (va_runV (As := [.int (nI ((8 * nz) / 2 ^ 8))]) (rest := []) S (c_X9_add l G M91 _ md _ _ _ _ _ _ _ _ _ (nI (8 * nz / 2 ^ 8)) hJ ⟨h0, h10, h11, ⟨_, h1, hK⟩, ⟨_, h2, hB⟩, ⟨_, h12⟩, ⟨_, h13⟩, ⟨_, h14⟩⟩ (by omega)) (cwV 1 S.2.2.2.2 gX9_hash_X9_add rfl rfl rfl (by decide +kernel) ⟨Nat.le_of_ble_eq_true rfl, Nat.le_of_ble_eq_true rfl⟩) (mm_preV hC hA hR _ h0 rfl) rfl rfl hl.1 rfl (lv_room (Nat.le_of_ble_eq_true rfl)) dX9_hash_74 ⟨Nat.le_of_ble_eq_true rfl, Nat.le_of_ble_eq_true rfl⟩) (fun M94 H locs hp hR => ?_)
              obtain ⟨⟨h0, h10, h11, ⟨kk, h1, hK⟩, ⟨bb, h2, hB⟩, ⟨i12, h12⟩, ⟨g13, h13⟩, ⟨t14, h14⟩⟩, ff⟩ := hp
              have h0 : M94 (md 0) = some (ob 10 [.ref (md 1), .ref (md 2), .ref (md 3), .ref (md 4), .ref (md 5), .ref (md 6), .int v6, .ref (md 7), .ref (md 8), .int v9, .ref (md 9), .int v11, .int v12, .int v13, .ref (md 10), .int (nI (Z + 4 + 1 + 1 + 1)), .ref (md 11), .ref (md 12), .ref (md 13), .ref (md 14), .ref (md 15), .ref (md 16), .int v22]) := h0
              have h10 : M94 (md 10) = some (ia G 256 (upd fm92 (Z + 4 + 1 + 1) ((nI (8 * nz / 2 ^ 8)) &&& nI 255))) := h10
              have h11 : M94 (md 11) = some (ia G 32 d) := h11
              have h1 : M94 (md 1) = some (ia G 64 kk) := h1
              have h2 : M94 (md 2) = some (ia G 8 bb) := h2
              have h12 : M94 (md 12) = some (ia G 32 i12) := h12
              have h13 : M94 (md 13) = some (ia G 64 g13) := h13
              have h14 : M94 (md 14) = some (ia G 8 t14) := h14
              have hF := hF.tr ff (mm_ic 0 rfl (mm_ic 1 rfl (mm_ic 2 rfl (mm_ic 3 rfl (mm_ic 4 rfl mm_i0)))))
              have hm : ∀ j, j < Z + 4 + 1 + 1 + 1 → (upd fm92 (Z + 4 + 1 + 1) ((nI (8 * nz / 2 ^ 8)) &&& nI 255)) j = padm nz f j := mt_s hm (by rw [padm_h (i := 6) (by omega) (by omega)]; exact lb_6 nz (by omega))
              obtain ⟨fm95, efm95⟩ : ∃ z : Nat → Int32, z = upd fm92 (Z + 4 + 1 + 1) ((nI (8 * nz / 2 ^ 8)) &&& nI 255) := ⟨_, rfl⟩
              rw [← efm95] at h10
              rw [← efm95] at hm
              refine lv_aload_n hx hb dX9_hash_77 rfl (lv_at hl 0 rfl) ?_
              refine lv_iload_n hx hb dX9_hash_78 rfl (lv_at hl 1 rfl) ?_
              refine mm_callv hA hR (va_runV (As := [.int (nI (8 * nz))]) (rest := []) S (c_X9_add l G M94 _ md _ _ _ _ _ _ _ _ _ (nI (8 * nz)) hJ ⟨h0, h10, h11, ⟨_, h1, hK⟩, ⟨_, h2, hB⟩, ⟨_, h12⟩, ⟨_, h13⟩, ⟨_, h14⟩⟩ (by omega)) (cwV 1 S.2.2.2.2 gX9_hash_X9_add rfl rfl rfl (by decide +kernel) ⟨Nat.le_of_ble_eq_true rfl, Nat.le_of_ble_eq_true rfl⟩) (mm_preV hC hA hR _ h0 rfl) rfl rfl hl.1 rfl (lv_room (Nat.le_of_ble_eq_true rfl)) dX9_hash_79 ⟨Nat.le_of_ble_eq_true rfl, Nat.le_of_ble_eq_true rfl⟩) (fun M97 H locs hp hR => ?_)
              obtain ⟨⟨h0, h10, h11, ⟨kk, h1, hK⟩, ⟨bb, h2, hB⟩, ⟨i12, h12⟩, ⟨g13, h13⟩, ⟨t14, h14⟩⟩, ff⟩ := hp
              have h0 : M97 (md 0) = some (ob 10 [.ref (md 1), .ref (md 2), .ref (md 3), .ref (md 4), .ref (md 5), .ref (md 6), .int v6, .ref (md 7), .ref (md 8), .int v9, .ref (md 9), .int v11, .int v12, .int v13, .ref (md 10), .int (nI (Z + 4 + 1 + 1 + 1 + 1)), .ref (md 11), .ref (md 12), .ref (md 13), .ref (md 14), .ref (md 15), .ref (md 16), .int v22]) := h0
              have h10 : M97 (md 10) = some (ia G 256 (upd fm95 (Z + 4 + 1 + 1 + 1) ((nI (8 * nz)) &&& nI 255))) := h10
              have h11 : M97 (md 11) = some (ia G 32 d) := h11
              have h1 : M97 (md 1) = some (ia G 64 kk) := h1
              have h2 : M97 (md 2) = some (ia G 8 bb) := h2
              have h12 : M97 (md 12) = some (ia G 32 i12) := h12
              have h13 : M97 (md 13) = some (ia G 64 g13) := h13
              have h14 : M97 (md 14) = some (ia G 8 t14) := h14
              have hF := hF.tr ff (mm_ic 0 rfl (mm_ic 1 rfl (mm_ic 2 rfl (mm_ic 3 rfl (mm_ic 4 rfl mm_i0)))))
              have hm : ∀ j, j < Z + 4 + 1 + 1 + 1 + 1 → (upd fm95 (Z + 4 + 1 + 1 + 1) ((nI (8 * nz)) &&& nI 255)) j = padm nz f j := mt_s hm (by rw [padm_h (i := 7) (by omega) (by omega)]; exact lb_7 nz (by omega))
              obtain ⟨fm98, efm98⟩ : ∃ z : Nat → Int32, z = upd fm95 (Z + 4 + 1 + 1 + 1) ((nI (8 * nz)) &&& nI 255) := ⟨_, rfl⟩
              rw [← efm98] at h10
              rw [← efm98] at hm
              refine lv_iconst (v := nI 0) hx hb dX9_hash_82 (by decide) ?_
              refine lv_istore_n (lv' := [(2, .int (nI 0)), (0, .ref (md 0)), (1, .int (nI (8 * nz)))]) hx hb dX9_hash_83 rfl hl (by decide) rfl (fun ls hl => ?_)
              have loopC : ∀ (n : Nat) (i : Nat)  (M1 : mm_M) (H : Heap) (locs : List Loc) (ls : Array Slot), (8 < i + n) → (i ≤ 8) → (M1 (md 0) = some (ob 10 [.ref (md 1), .ref (md 2), .ref (md 3), .ref (md 4), .ref (md 5), .ref (md 6), .int v6, .ref (md 7), .ref (md 8), .int v9, .ref (md 9), .int v11, .int v12, .int v13, .ref (md 10), .int (nI (Z + 4 + 1 + 1 + 1 + 1)), .ref (md 11), .ref (md 12), .ref (md 13), .ref (md 14), .ref (md 15), .ref (md 16), .int v22])) → (M1 (md 10) = some (ia G 256 fm98)) → (M1 (md 11) = some (ia G 32 d)) → (M1 (md 1) = some (ia G 64 kk)) → (M1 (md 2) = some (ia G 8 bb)) → (M1 (md 12) = some (ia G 32 i12)) → (M1 (md 13) = some (ia G 64 g13)) → (M1 (md 14) = some (ia G 8 (va_cpy bb t14 0 0 i))) → (mm_fr [md 0, md 10, md 11, md 13, md 14] M M1) → mm_R G s (mm_A M sz) M1 H locs → lv_has ls 3 [(0, .ref (md 0)), (1, .int (nI (8 * nz))), (2, .int (nI i))] → W p0 l e0 ({ frames := 2, cells := 0, slots := 0, locals := 110 } : Room) s m0 ([.ref (md 0)] : List Value).toArray be0 me0 c0 H locs 0 0 (MQ be0 (va_Qv (fun M' => ∃ f' d', yS G M' md v6 v9 v11 v12 v13 v22 0 f' d' ∧ (∀ i, i < 32 → d' i = dgb nz f i) ∧ mm_fr [md 0, md 10, md 11, md 13, md 14] M M') (fun M' t => mm_H G (mm_A M sz) M' t.heap) (mm_A M sz)) ([.ref (md 0)] : List Value).toArray s 0 0 (mm_A M sz)) (F0 m0 84 ls []) := by
                intro n
                induction n with
                | zero =>
                  intro i  M1 H locs ls hn hi h0 h10 h11 h1 h2 h12 h13 h14 hF hR hl
                  omega
                | succ n ih =>
                  intro i  M1 H locs ls hn hi h0 h10 h11 h1 h2 h12 h13 h14 hF hR hl
                  refine lv_iload_n hx hb dX9_hash_84 rfl (lv_at hl 2 rfl) ?_
                  refine lv_bipush (v := nI 8) hx hb dX9_hash_85 (by decide) ?_
                  refine lv_icmp_ge (tgt := 108) hx hb dX9_hash_87 (by decide) (fun c99 => ?_) (fun c99 => ?_)
                  · have c99 : 8 ≤ i := (nI_leI (a := 8) (b := i) (by omega) (by omega)).mp c99
                    have e4 : 8 = i := by omega
                    subst e4
                    refine lv_iconst (v := nI 0) hx hb dX9_hash_108 (by decide) ?_
                    refine lv_istore_n (lv' := [(2, .int (nI 0)), (0, .ref (md 0)), (1, .int (nI (8 * nz)))]) hx hb dX9_hash_109 rfl hl (by decide) rfl (fun ls hl => ?_)
                    have hst : ∀ j, j < 8 → va_cpy bb t14 0 0 8 j = sha_b fm98 0 j := fun j hj => by rw [cpy_in (by omega) (by omega), show 0 + (j - 0) = j by omega]; exact hB j hj
                    have loopD : ∀ (n : Nat) (i : Nat) (st gg : Nat → Int32) (M1 : mm_M) (H : Heap) (locs : List Loc) (ls : Array Slot), ((nz + 72) / 64 < i + n) → (i ≤ (nz + 72) / 64) → (M1 (md 0) = some (ob 10 [.ref (md 1), .ref (md 2), .ref (md 3), .ref (md 4), .ref (md 5), .ref (md 6), .int v6, .ref (md 7), .ref (md 8), .int v9, .ref (md 9), .int v11, .int v12, .int v13, .ref (md 10), .int (nI (Z + 4 + 1 + 1 + 1 + 1)), .ref (md 11), .ref (md 12), .ref (md 13), .ref (md 14), .ref (md 15), .ref (md 16), .int v22])) → (M1 (md 10) = some (ia G 256 fm98)) → (M1 (md 11) = some (ia G 32 d)) → (M1 (md 1) = some (ia G 64 kk)) → (M1 (md 2) = some (ia G 8 bb)) → (M1 (md 12) = some (ia G 32 i12)) → (M1 (md 13) = some (ia G 64 gg)) → (M1 (md 14) = some (ia G 8 st)) → (∀ j, j < 8 → st j = sha_b fm98 i j) → (mm_fr [md 0, md 10, md 11, md 13, md 14] M M1) → mm_R G s (mm_A M sz) M1 H locs → lv_has ls 3 [(0, .ref (md 0)), (1, .int (nI (8 * nz))), (2, .int (nI (64 * i)))] → W p0 l e0 ({ frames := 2, cells := 0, slots := 0, locals := 110 } : Room) s m0 ([.ref (md 0)] : List Value).toArray be0 me0 c0 H locs 0 0 (MQ be0 (va_Qv (fun M' => ∃ f' d', yS G M' md v6 v9 v11 v12 v13 v22 0 f' d' ∧ (∀ i, i < 32 → d' i = dgb nz f i) ∧ mm_fr [md 0, md 10, md 11, md 13, md 14] M M') (fun M' t => mm_H G (mm_A M sz) M' t.heap) (mm_A M sz)) ([.ref (md 0)] : List Value).toArray s 0 0 (mm_A M sz)) (F0 m0 110 ls []) := by
                      intro n
                      induction n with
                      | zero =>
                        intro i st gg M1 H locs ls hn hi h0 h10 h11 h1 h2 h12 h13 h14 hst hF hR hl
                        omega
                      | succ n ih =>
                        intro i st gg M1 H locs ls hn hi h0 h10 h11 h1 h2 h12 h13 h14 hst hF hR hl
                        refine lv_iload_n hx hb dX9_hash_110 rfl (lv_at hl 2 rfl) ?_
                        refine lv_aload_n hx hb dX9_hash_111 rfl (lv_at hl 0 rfl) ?_
                        refine mm_get S hC hR (C := RX9) (T := TX9) (N := 23) (ref := "ForkWatchModel") (v := .int (nI (Z + 4 + 1 + 1 + 1 + 1))) 15 h0 inRX9 rfl (by decide) (by decide +kernel) (fun _ h9 => h9) rfl dX9_hash_112 ?_
                        refine lv_icmp_ge (tgt := 129) hx hb dX9_hash_115 (by decide) (fun c4 => ?_) (fun c4 => ?_)
                        · have c4 : Z + 4 + 1 + 1 + 1 + 1 ≤ 64 * i := (nI_leI (a := Z + 4 + 1 + 1 + 1 + 1) (b := 64 * i) (by omega) (by omega)).mp c4
                          have e4 : (nz + 72) / 64 = i := by omega
                          subst e4
                          refine lv_iconst (v := nI 0) hx hb dX9_hash_129 (by decide) ?_
                          refine lv_istore_n (lv' := [(2, .int (nI 0)), (0, .ref (md 0)), (1, .int (nI (8 * nz)))]) hx hb dX9_hash_130 rfl hl (by decide) rfl (fun ls hl => ?_)
                          have loopE : ∀ (n : Nat) (i : Nat)  (M1 : mm_M) (H : Heap) (locs : List Loc) (ls : Array Slot), (32 < i + n) → (i ≤ 32) → (M1 (md 0) = some (ob 10 [.ref (md 1), .ref (md 2), .ref (md 3), .ref (md 4), .ref (md 5), .ref (md 6), .int v6, .ref (md 7), .ref (md 8), .int v9, .ref (md 9), .int v11, .int v12, .int v13, .ref (md 10), .int (nI (Z + 4 + 1 + 1 + 1 + 1)), .ref (md 11), .ref (md 12), .ref (md 13), .ref (md 14), .ref (md 15), .ref (md 16), .int v22])) → (M1 (md 10) = some (ia G 256 fm98)) → (M1 (md 11) = some (ia G 32 (va_cpy (fun i => ru (st (i / 4)) (24 - 8 * (i % 4)) &&& nI 255) d 0 0 i))) → (M1 (md 1) = some (ia G 64 kk)) → (M1 (md 2) = some (ia G 8 bb)) → (M1 (md 12) = some (ia G 32 i12)) → (M1 (md 13) = some (ia G 64 gg)) → (M1 (md 14) = some (ia G 8 st)) → (mm_fr [md 0, md 10, md 11, md 13, md 14] M M1) → mm_R G s (mm_A M sz) M1 H locs → lv_has ls 3 [(0, .ref (md 0)), (1, .int (nI (8 * nz))), (2, .int (nI i))] → W p0 l e0 ({ frames := 2, cells := 0, slots := 0, locals := 110 } : Room) s m0 ([.ref (md 0)] : List Value).toArray be0 me0 c0 H locs 0 0 (MQ be0 (va_Qv (fun M' => ∃ f' d', yS G M' md v6 v9 v11 v12 v13 v22 0 f' d' ∧ (∀ i, i < 32 → d' i = dgb nz f i) ∧ mm_fr [md 0, md 10, md 11, md 13, md 14] M M') (fun M' t => mm_H G (mm_A M sz) M' t.heap) (mm_A M sz)) ([.ref (md 0)] : List Value).toArray s 0 0 (mm_A M sz)) (F0 m0 131 ls []) := by
                            intro n
                            induction n with
                            | zero =>
                              intro i  M1 H locs ls hn hi h0 h10 h11 h1 h2 h12 h13 h14 hF hR hl
                              omega
                            | succ n ih =>
                              intro i  M1 H locs ls hn hi h0 h10 h11 h1 h2 h12 h13 h14 hF hR hl
                              refine lv_iload_n hx hb dX9_hash_131 rfl (lv_at hl 2 rfl) ?_
                              refine lv_bipush (v := nI 32) hx hb dX9_hash_132 (by decide) ?_
                              refine lv_icmp_ge (tgt := 171) hx hb dX9_hash_134 (by decide) (fun c103 => ?_) (fun c103 => ?_)
                              · have c103 : 32 ≤ i := (nI_leI (a := 32) (b := i) (by omega) (by omega)).mp c103
                                have e4 : 32 = i := by omega
                                subst e4
                                refine lv_aload_n hx hb dX9_hash_171 rfl (lv_at hl 0 rfl) ?_
                                refine lv_iconst (v := nI 0) hx hb dX9_hash_172 (by decide) ?_
                                refine mm_put S hC hR (C := RX9) (T := TX9) (N := 23) (ref := "ForkWatchModel") 15 h0 inRX9 rfl tyX9_ok nmX9 (by decide) (by decide +kernel) (fun _ h9 => h9) rfl rfl rfl (Nat.le_of_ble_eq_true rfl) dX9_hash_173 (fun H locs M104 g106 f105 hR => ?_)
                                have h10 := f105.at h10 (mm_nc (yne hJ (by decide) (by decide) (by decide)) mm_n0)
                                have h11 := f105.at h11 (mm_nc (yne hJ (by decide) (by decide) (by decide)) mm_n0)
                                have h1 := f105.at h1 (mm_nc (yne hJ (by decide) (by decide) (by decide)) mm_n0)
                                have h2 := f105.at h2 (mm_nc (yne hJ (by decide) (by decide) (by decide)) mm_n0)
                                have h12 := f105.at h12 (mm_nc (yne hJ (by decide) (by decide) (by decide)) mm_n0)
                                have h13 := f105.at h13 (mm_nc (yne hJ (by decide) (by decide) (by decide)) mm_n0)
                                have h14 := f105.at h14 (mm_nc (yne hJ (by decide) (by decide) (by decide)) mm_n0)
                                have h0 : M104 (md 0) = some (ob 10 [.ref (md 1), .ref (md 2), .ref (md 3), .ref (md 4), .ref (md 5), .ref (md 6), .int v6, .ref (md 7), .ref (md 8), .int v9, .ref (md 9), .int v11, .int v12, .int v13, .ref (md 10), .int (nI 0), .ref (md 11), .ref (md 12), .ref (md 13), .ref (md 14), .ref (md 15), .ref (md 16), .int v22]) := g106
                                have hF := hF.tr f105 (mm_ic 0 rfl mm_i0)
                                have hfin : ∀ i, i < 32 → va_cpy (fun i => ru (st (i / 4)) (24 - 8 * (i % 4)) &&& nI 255) d 0 0 32 i = dgb nz f i := fun i hi => by
                                  rw [cpy_in (by omega) (by omega), show 0 + (i - 0) = i by omega]
                                  show ru (st (i / 4)) _ &&& _ = ru (sha_d nz f (i / 4)) _ &&& _
                                  rw [hst (i / 4) (by omega), sha_b_ag (m' := padm nz f) _ (fun j hj => hm j (by omega)) (i / 4) (by omega)]
                                  rfl
                                exact mm_vret S hr hlocks hR ⟨_, _, ⟨h0, h10, h11, ⟨_, h1, hK⟩, ⟨_, h2, hB⟩, ⟨_, h12⟩, ⟨_, h13⟩, ⟨_, h14⟩⟩, hfin, hF⟩ dX9_hash_176
                              · have c103 : ¬ (32 ≤ i) := fun z => c103 ((nI_leI (a := 32) (b := i) (by omega) (by omega)).mpr z)
                                refine lv_aload_n hx hb dX9_hash_137 rfl (lv_at hl 0 rfl) ?_
                                refine mm_get S hC hR (C := RX9) (T := TX9) (N := 23) (ref := "ForkWatchModel") (v := .ref (md 11)) 16 h0 inRX9 rfl (by decide) (by decide +kernel) (fun _ h9 => h9) rfl dX9_hash_138 ?_
                                refine lv_iload_n hx hb dX9_hash_141 rfl (lv_at hl 2 rfl) ?_
                                refine lv_aload_n hx hb dX9_hash_142 rfl (lv_at hl 0 rfl) ?_
                                refine mm_get S hC hR (C := RX9) (T := TX9) (N := 23) (ref := "ForkWatchModel") (v := .ref (md 14)) 19 h0 inRX9 rfl (by decide) (by decide +kernel) (fun _ h9 => h9) rfl dX9_hash_143 ?_
                                refine lv_iload_n hx hb dX9_hash_146 rfl (lv_at hl 2 rfl) ?_
                                refine lv_iconst (v := nI 4) hx hb dX9_hash_147 (by decide) ?_
                                refine lv_idiv hx hb dX9_hash_148 (by first | decide | (exact nI_ne0 (by omega) (by omega))) ?_
                                refine mm_eqi (pk_div (by omega) (by omega) (by omega)) ?_
                                refine mm_iald S hC hR h14 (j := (i / 4)) (by omega) (by omega) dX9_hash_149 ?_
                                refine lv_bipush (v := nI 24) hx hb dX9_hash_150 (by decide) ?_
                                refine lv_bipush (v := nI 8) hx hb dX9_hash_152 (by decide) ?_
                                refine lv_iload_n hx hb dX9_hash_154 rfl (lv_at hl 2 rfl) ?_
                                refine lv_iconst (v := nI 4) hx hb dX9_hash_155 (by decide) ?_
                                refine lv_irem hx hb dX9_hash_156 (by first | decide | (exact nI_ne0 (by omega) (by omega))) ?_
                                refine mm_eqi (pk_rem (by omega) (by omega) (by omega)) ?_
                                refine lv_imul hx hb dX9_hash_157 ?_
                                refine mm_eqi (pk_mul _ _) ?_
                                refine lv_isub hx hb dX9_hash_158 ?_
                                refine mm_eqi (pk_sub (by omega)) ?_
                                refine lv_iushr hx hb dX9_hash_159 rfl ?_
                                refine lv_sipush (v := nI 255) hx hb dX9_hash_160 (by decide) ?_
                                refine lv_iand hx hb dX9_hash_163 ?_
                                refine mm_iast S hC hR h11 (j := i) (by omega) (by omega) dX9_hash_164 (fun H locs M107 g109 f108 hR => ?_)
                                have h0 := f108.at h0 (mm_nc (yne hJ (by decide) (by decide) (by decide)) mm_n0)
                                have h10 := f108.at h10 (mm_nc (yne hJ (by decide) (by decide) (by decide)) mm_n0)
                                have h1 := f108.at h1 (mm_nc (yne hJ (by decide) (by decide) (by decide)) mm_n0)
                                have h2 := f108.at h2 (mm_nc (yne hJ (by decide) (by decide) (by decide)) mm_n0)
                                have h12 := f108.at h12 (mm_nc (yne hJ (by decide) (by decide) (by decide)) mm_n0)
                                have h13 := f108.at h13 (mm_nc (yne hJ (by decide) (by decide) (by decide)) mm_n0)
                                have h14 := f108.at h14 (mm_nc (yne hJ (by decide) (by decide) (by decide)) mm_n0)
                                have h11 : M107 (md 11) = some (ia G 32 (upd (va_cpy (fun i => ru (st (i / 4)) (24 - 8 * (i % 4)) &&& nI 255) d 0 0 i) i ((((st (i / 4)).toUInt32 >>> ((nI (24 - (8 * (i % 4)))).toUInt32 &&& Int32.toUInt32 31)).toInt32) &&& (nI 255)))) := g109
                                have hF := hF.tr f108 (mm_ic 2 rfl mm_i0)
                                refine lv_iinc (v := (nI (i + 1))) (lv' := [(2, .int (nI (i + 1))), (0, .ref (md 0)), (1, .int (nI (8 * nz)))]) hx hb dX9_hash_165 hl (k := 2) rfl (by rw [show Int32.ofInt 1 = nI 1 from by decide]; exact nI_add _ _) (by decide) rfl (fun ls hl => ?_)
                                refine lv_goto (tgt := 131) hx hb dX9_hash_168 (by decide) ?_
                                exact ih (i + 1)  _ H locs ls (by omega) (by omega) h0 h10 (cellE h11 (cpy_s0 (s := fun i => ru (st (i / 4)) (24 - 8 * (i % 4)) &&& nI 255) rfl)) h1 h2 h12 h13 h14 hF hR (lv_sub hl [1, 2, 0] rfl)
                          exact loopE (32 + 1) 0  _ _ _ ls (by omega) (by omega) h0 h10 (cellE h11 cpy_0.symm) h1 h2 h12 h13 h14 hF hR (lv_sub hl [1, 2, 0] rfl)
                        · have c4 : ¬ (Z + 4 + 1 + 1 + 1 + 1 ≤ 64 * i) := fun z => c4 ((nI_leI (a := Z + 4 + 1 + 1 + 1 + 1) (b := 64 * i) (by omega) (by omega)).mpr z)
                          refine lv_aload_n hx hb dX9_hash_118 rfl (lv_at hl 0 rfl) ?_
                          refine lv_iload_n hx hb dX9_hash_119 rfl (lv_at hl 2 rfl) ?_
                          refine mm_callv hA hR (va_runV (As := [.int (nI (64 * i))]) (rest := []) S (c_X9_mix l G M1 _ md _ _ _ _ _ _ _ _ kk gg st (64 * i) h0 h10 h1 h13 h14 hJ hK (by omega)) (cwV 1 S.2.2.2.2 gX9_hash_X9_mix rfl rfl rfl (by decide +kernel) ⟨Nat.le_of_ble_eq_true rfl, Nat.le_of_ble_eq_true rfl⟩) (mm_preV hC hA hR _ h0 rfl) rfl rfl hl.1 rfl (lv_room (Nat.le_of_ble_eq_true rfl)) dX9_hash_120 ⟨Nat.le_of_ble_eq_true rfl, Nat.le_of_ble_eq_true rfl⟩) (fun M111 H locs hp hR => ?_)
                          obtain ⟨s', g', h14, hs', h13, ff⟩ := hp
                          have h0 := ff.at h0 (mm_nc (yne hJ (by decide) (by decide) (by decide)) (mm_nc (yne hJ (by decide) (by decide) (by decide)) mm_n0))
                          have h10 := ff.at h10 (mm_nc (yne hJ (by decide) (by decide) (by decide)) (mm_nc (yne hJ (by decide) (by decide) (by decide)) mm_n0))
                          have h11 := ff.at h11 (mm_nc (yne hJ (by decide) (by decide) (by decide)) (mm_nc (yne hJ (by decide) (by decide) (by decide)) mm_n0))
                          have h1 := ff.at h1 (mm_nc (yne hJ (by decide) (by decide) (by decide)) (mm_nc (yne hJ (by decide) (by decide) (by decide)) mm_n0))
                          have h2 := ff.at h2 (mm_nc (yne hJ (by decide) (by decide) (by decide)) (mm_nc (yne hJ (by decide) (by decide) (by decide)) mm_n0))
                          have h12 := ff.at h12 (mm_nc (yne hJ (by decide) (by decide) (by decide)) (mm_nc (yne hJ (by decide) (by decide) (by decide)) mm_n0))
                          have h14 : M111 (md 14) = some (ia G 8 s') := h14
                          have h13 : M111 (md 13) = some (ia G 64 g') := h13
                          have hF := hF.tr ff (mm_ic 3 rfl (mm_ic 4 rfl mm_i0))
                          refine lv_iinc (v := (nI (64 * i + 64))) (lv' := [(2, .int (nI (64 * i + 64))), (0, .ref (md 0)), (1, .int (nI (8 * nz)))]) hx hb dX9_hash_123 hl (k := 2) rfl (by rw [show Int32.ofInt 64 = nI 64 from by decide]; exact nI_add _ _) (by decide) rfl (fun ls hl => ?_)
                          refine lv_goto (tgt := 110) hx hb dX9_hash_126 (by decide) ?_
                          exact ih (i + 1) _ _ _ H locs ls (by omega) (by omega) h0 h10 h11 h1 h2 h12 h13 h14 (fun j hj => by rw [hs' j hj]; exact mx_ag hst (fun _ _ => rfl) j hj) hF hR (lv_sub hl [1, 2, 0] (by rw [show 64 * (i + 1) = 64 * i + 64 by omega]; rfl))
                    exact loopD ((nz + 72) / 64 + 1) 0 _ _ _ _ _ ls (by omega) (by omega) h0 h10 h11 h1 h2 h12 h13 h14 hst hF hR (lv_sub hl [1, 2, 0] rfl)
                  · have c99 : ¬ (8 ≤ i) := fun z => c99 ((nI_leI (a := 8) (b := i) (by omega) (by omega)).mpr z)
                    refine lv_aload_n hx hb dX9_hash_90 rfl (lv_at hl 0 rfl) ?_
                    refine mm_get S hC hR (C := RX9) (T := TX9) (N := 23) (ref := "ForkWatchModel") (v := .ref (md 14)) 19 h0 inRX9 rfl (by decide) (by decide +kernel) (fun _ h9 => h9) rfl dX9_hash_91 ?_
                    refine lv_iload_n hx hb dX9_hash_94 rfl (lv_at hl 2 rfl) ?_
                    refine lv_aload_n hx hb dX9_hash_95 rfl (lv_at hl 0 rfl) ?_
                    refine mm_get S hC hR (C := RX9) (T := TX9) (N := 23) (ref := "ForkWatchModel") (v := .ref (md 2)) 1 h0 inRX9 rfl (by decide) (by decide +kernel) (fun _ h9 => h9) rfl dX9_hash_96 ?_
                    refine lv_iload_n hx hb dX9_hash_99 rfl (lv_at hl 2 rfl) ?_
                    refine mm_iald S hC hR h2 (j := i) (by omega) (by omega) dX9_hash_100 ?_
                    refine mm_iast S hC hR h14 (j := i) (by omega) (by omega) dX9_hash_101 (fun H locs M100 g102 f101 hR => ?_)
                    have h0 := f101.at h0 (mm_nc (yne hJ (by decide) (by decide) (by decide)) mm_n0)
                    have h10 := f101.at h10 (mm_nc (yne hJ (by decide) (by decide) (by decide)) mm_n0)
                    have h11 := f101.at h11 (mm_nc (yne hJ (by decide) (by decide) (by decide)) mm_n0)
                    have h1 := f101.at h1 (mm_nc (yne hJ (by decide) (by decide) (by decide)) mm_n0)
                    have h2 := f101.at h2 (mm_nc (yne hJ (by decide) (by decide) (by decide)) mm_n0)
                    have h12 := f101.at h12 (mm_nc (yne hJ (by decide) (by decide) (by decide)) mm_n0)
                    have h13 := f101.at h13 (mm_nc (yne hJ (by decide) (by decide) (by decide)) mm_n0)
                    have h14 : M100 (md 14) = some (ia G 8 (upd (va_cpy bb t14 0 0 i) i (bb i))) := g102
                    have hF := hF.tr f101 (mm_ic 4 rfl mm_i0)
                    refine lv_iinc (v := (nI (i + 1))) (lv' := [(2, .int (nI (i + 1))), (0, .ref (md 0)), (1, .int (nI (8 * nz)))]) hx hb dX9_hash_102 hl (k := 2) rfl (by rw [show Int32.ofInt 1 = nI 1 from by decide]; exact nI_add _ _) (by decide) rfl (fun ls hl => ?_)
                    refine lv_goto (tgt := 84) hx hb dX9_hash_105 (by decide) ?_
                    exact ih (i + 1)  _ H locs ls (by omega) (by omega) h0 h10 h11 h1 h2 h12 h13 (cellE h14 (cpy_s0 rfl)) hF hR (lv_sub hl [1, 2, 0] rfl)
              exact loopC (8 + 1) 0  _ _ _ ls (by omega) (by omega) h0 h10 h11 h1 h2 h12 h13 (cellE h14 cpy_0.symm) hF hR (lv_sub hl [1, 2, 0] rfl)
            · have c2 : ¬ (4 ≤ i) := fun z => c2 ((nI_leI (a := 4) (b := i) (by omega) (by omega)).mpr z)
              refine lv_aload_n hx hb dX9_hash_42 rfl (lv_at hl 0 rfl) ?_
              refine lv_iconst (v := nI 0) hx hb dX9_hash_43 (by decide) ?_
              refine mm_callv hA hR (va_runV (As := [.int (nI 0)]) (rest := []) S (c_X9_add l G M1 _ md _ _ _ _ _ _ _ _ _ (nI 0) hJ ⟨h0, h10, h11, ⟨_, h1, hK⟩, ⟨_, h2, hB⟩, ⟨_, h12⟩, ⟨_, h13⟩, ⟨_, h14⟩⟩ (by omega)) (cwV 1 S.2.2.2.2 gX9_hash_X9_add rfl rfl rfl (by decide +kernel) ⟨Nat.le_of_ble_eq_true rfl, Nat.le_of_ble_eq_true rfl⟩) (mm_preV hC hA hR _ h0 rfl) rfl rfl hl.1 rfl (lv_room (Nat.le_of_ble_eq_true rfl)) dX9_hash_44 ⟨Nat.le_of_ble_eq_true rfl, Nat.le_of_ble_eq_true rfl⟩) (fun M113 H locs hp hR => ?_)
              obtain ⟨⟨h0, h10, h11, ⟨kk, h1, hK⟩, ⟨bb, h2, hB⟩, ⟨i12, h12⟩, ⟨g13, h13⟩, ⟨t14, h14⟩⟩, ff⟩ := hp
              have h0 : M113 (md 0) = some (ob 10 [.ref (md 1), .ref (md 2), .ref (md 3), .ref (md 4), .ref (md 5), .ref (md 6), .int v6, .ref (md 7), .ref (md 8), .int v9, .ref (md 9), .int v11, .int v12, .int v13, .ref (md 10), .int (nI (Z + i + 1)), .ref (md 11), .ref (md 12), .ref (md 13), .ref (md 14), .ref (md 15), .ref (md 16), .int v22]) := h0
              have h10 : M113 (md 10) = some (ia G 256 (upd fm (Z + i) ((nI 0) &&& nI 255))) := h10
              have h11 : M113 (md 11) = some (ia G 32 d) := h11
              have h1 : M113 (md 1) = some (ia G 64 kk) := h1
              have h2 : M113 (md 2) = some (ia G 8 bb) := h2
              have h12 : M113 (md 12) = some (ia G 32 i12) := h12
              have h13 : M113 (md 13) = some (ia G 64 g13) := h13
              have h14 : M113 (md 14) = some (ia G 8 t14) := h14
              have hF := hF.tr ff (mm_ic 0 rfl (mm_ic 1 rfl (mm_ic 2 rfl (mm_ic 3 rfl (mm_ic 4 rfl mm_i0)))))
              have hm : ∀ j, j < Z + i + 1 → (upd fm (Z + i) ((nI 0) &&& nI 255)) j = padm nz f j := mt_s hm (by rw [padm_h (i := i) (by omega) (by omega)]; exact lb_lo nz (by omega) i (by omega))
              obtain ⟨fm114, efm114⟩ : ∃ z : Nat → Int32, z = upd fm (Z + i) ((nI 0) &&& nI 255) := ⟨_, rfl⟩
              rw [← efm114] at h10
              rw [← efm114] at hm
              refine lv_iinc (v := (nI (i + 1))) (lv' := [(2, .int (nI (i + 1))), (0, .ref (md 0)), (1, .int (nI (8 * nz)))]) hx hb dX9_hash_47 hl (k := 2) rfl (by rw [show Int32.ofInt 1 = nI 1 from by decide]; exact nI_add _ _) (by decide) rfl (fun ls hl => ?_)
              refine lv_goto (tgt := 37) hx hb dX9_hash_50 (by decide) ?_
              exact ih (i + 1) _ _ H locs ls (by omega) (by omega) ⟨h0, h10, h11, ⟨_, h1, hK⟩, ⟨_, h2, hB⟩, ⟨_, h12⟩, ⟨_, h13⟩, ⟨_, h14⟩⟩ hm hF hR (lv_sub hl [1, 2, 0] rfl)
        exact loopB 5 0 _ _ _ _ ls (by omega) (by omega) hS hm hF hR (lv_sub hl [1, 2, 0] rfl)
      · have c1 : ¬ (k % 64 = 56) := fun z => c1 ((nI_eq (a := k % 64) (b := 56) (by omega) (by omega)).mpr z)
        refine lv_aload_n hx hb dX9_hash_27 rfl (lv_at hl 0 rfl) ?_
        refine lv_iconst (v := nI 0) hx hb dX9_hash_28 (by decide) ?_
        refine mm_callv hA hR (va_runV (As := [.int (nI 0)]) (rest := []) S (c_X9_add l G M1 _ md _ _ _ _ _ _ _ _ _ (nI 0) hJ ⟨h0, h10, h11, ⟨_, h1, hK⟩, ⟨_, h2, hB⟩, ⟨_, h12⟩, ⟨_, h13⟩, ⟨_, h14⟩⟩ (by omega)) (cwV 1 S.2.2.2.2 gX9_hash_X9_add rfl rfl rfl (by decide +kernel) ⟨Nat.le_of_ble_eq_true rfl, Nat.le_of_ble_eq_true rfl⟩) (mm_preV hC hA hR _ h0 rfl) rfl rfl hl.1 rfl (lv_room (Nat.le_of_ble_eq_true rfl)) dX9_hash_29 ⟨Nat.le_of_ble_eq_true rfl, Nat.le_of_ble_eq_true rfl⟩) (fun M85 H locs hp hR => ?_)
        obtain ⟨⟨h0, h10, h11, ⟨kk, h1, hK⟩, ⟨bb, h2, hB⟩, ⟨i12, h12⟩, ⟨g13, h13⟩, ⟨t14, h14⟩⟩, ff⟩ := hp
        have h0 : M85 (md 0) = some (ob 10 [.ref (md 1), .ref (md 2), .ref (md 3), .ref (md 4), .ref (md 5), .ref (md 6), .int v6, .ref (md 7), .ref (md 8), .int v9, .ref (md 9), .int v11, .int v12, .int v13, .ref (md 10), .int (nI (k + 1)), .ref (md 11), .ref (md 12), .ref (md 13), .ref (md 14), .ref (md 15), .ref (md 16), .int v22]) := h0
        have h10 : M85 (md 10) = some (ia G 256 (upd fm k ((nI 0) &&& nI 255))) := h10
        have h11 : M85 (md 11) = some (ia G 32 d) := h11
        have h1 : M85 (md 1) = some (ia G 64 kk) := h1
        have h2 : M85 (md 2) = some (ia G 8 bb) := h2
        have h12 : M85 (md 12) = some (ia G 32 i12) := h12
        have h13 : M85 (md 13) = some (ia G 64 g13) := h13
        have h14 : M85 (md 14) = some (ia G 8 t14) := h14
        have hF := hF.tr ff (mm_ic 0 rfl (mm_ic 1 rfl (mm_ic 2 rfl (mm_ic 3 rfl (mm_ic 4 rfl mm_i0)))))
        have hm : ∀ j, j < k + 1 → (upd fm k ((nI 0) &&& nI 255)) j = padm nz f j := mt_s hm (by rw [padm_z (by omega) (by omega)]; decide)
        obtain ⟨fm86, efm86⟩ : ∃ z : Nat → Int32, z = upd fm k ((nI 0) &&& nI 255) := ⟨_, rfl⟩
        rw [← efm86] at h10
        rw [← efm86] at hm
        refine lv_goto (tgt := 15) hx hb dX9_hash_32 (by decide) ?_
        exact ih (k + 1) _ _ H locs ls (by omega) (by omega) (by omega) ⟨h0, h10, h11, ⟨_, h1, hK⟩, ⟨_, h2, hB⟩, ⟨_, h12⟩, ⟨_, h13⟩, ⟨_, h14⟩⟩ hm hF hR (lv_sub hl [0, 1] rfl)
  exact loopA (Z + 1) (nz + 1) _ _ _ _ ls (by omega) (by omega) (by omega) hS hm hF hR (lv_sub hl [1, 0] rfl)
