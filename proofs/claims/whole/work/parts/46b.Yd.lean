set_option maxHeartbeats 4000000 in
set_option maxRecDepth 100000 in
/-- check(client) -/
theorem c_X9_check (l : Launch) (G : mm_G) (M : mm_M) (sz : Nat) (md : Nat → Nat) (v6 v9 v11 v12 v13 v22 : Int32) (f d : Nat → Int32) (cc jj : Nat) (ss rr0 fs fl s7 tt p : Nat → Int32) (ln : Nat → Nat) (h3 : M (md 3) = some (ia G 2016 ss)) (h4 : M (md 4) = some (ia G 336 rr0)) (h5 : M (md 5) = some (ia G 1152 fs)) (h6 : M (md 6) = some (ia G 96 fl)) (h7 : M (md 7) = some (ia G 4 s7)) (h15 : M (md 15) = some (ia G 512 tt)) (h16 : M (md 16) = some (ia G 64 p)) (hJ : yI md) (hS : yS G M md v6 v9 v11 v12 v13 v22 0 f d) (hc4 : cc < 4) (hj6 : jj < 6) (hs7 : s7 cc = nI jj) (hln : ∀ x, x < 16 → fl (16 * jj + x) = nI (ln x) ∧ ln x ≤ 12) (hbf : ∀ x, x < 192 → byt (fs (192 * jj + x))) (hbs : ∀ q, q < 4 → ∀ i, i < 84 → byt (ss (84 * (4 * jj + q) + i))) : mm_i l yX9_check wsX9_check ({ frames := 5, cells := 0, slots := 0, locals := 230 } : Room) G ([.ref (md 0), .int (nI cc)] : List Value) M sz (fun r M' => ∃ k, k ≤ 4 ∧ r = nI k ∧ fckR (fun q => shf ss (84 * (4 * jj + q))) (shf rr0 (84 * cc)) (rtn (fun x => fs (192 * jj + x)) ln) cc k ∧ ∃ w22 f' d' t' p', yS G M' md v6 v9 v11 v12 v13 w22 0 f' d' ∧ M' (md 15) = some (ia G 512 t') ∧ M' (md 16) = some (ia G 64 p') ∧ mm_fr [md 0, md 10, md 11, md 12, md 13, md 14, md 15, md 16] M M') := by
  refine mm_enter (cc := cX9_check) (maxL := 7) (ret := (some .int)) _ (by decide) rfl (Nat.le_of_ble_eq_true rfl) ?_
  intro p0 e0 s m0 be0 me0 c0 ls S hr hlocks hname hA hC hR hl
  have hx := S.1
  have hb := S.2.1
  have hl : lv_has ls 7 [(0, .ref (md 0)), (1, .int (nI cc))] := hl
  have inRX9 : ∀ w ∈ wsX90, w ∈ wsX9_check := by decide +kernel
  have hF : mm_fr [md 0, md 10, md 11, md 12, md 13, md 14, md 15, md 16] M M := mm_fr.rf
  have h0 : M (md 0) = some (ob 10 [.ref (md 1), .ref (md 2), .ref (md 3), .ref (md 4), .ref (md 5), .ref (md 6), .int v6, .ref (md 7), .ref (md 8), .int v9, .ref (md 9), .int v11, .int v12, .int v13, .ref (md 10), .int (nI 0), .ref (md 11), .ref (md 12), .ref (md 13), .ref (md 14), .ref (md 15), .ref (md 16), .int v22]) := hS.1
  have h10 : M (md 10) = some (ia G 256 f) := hS.2.1
  have h11 : M (md 11) = some (ia G 32 d) := hS.2.2.1
  obtain ⟨st, est⟩ : ∃ z : Nat → Nat → Int32, z = (fun q => shf ss (84 * (4 * jj + q))) := ⟨_, rfl⟩
  have hst : ∀ q, shf ss (84 * (4 * jj + q)) = st q := fun q => by rw [est]
  have hss : ∀ q i, ss (84 * (4 * jj + q) + i) = st q i := fun q i => by rw [← hst]; rfl
  refine lv_aload_n hx hb dX9_check_0 rfl (lv_at hl 0 rfl) ?_
  refine mm_get S hC hR (C := RX9) (T := TX9) (N := 23) (ref := "ForkWatchModel") (v := .ref (md 7)) 7 h0 inRX9 rfl (by decide) (by decide +kernel) (fun _ h9 => h9) rfl dX9_check_1 ?_
  refine lv_iload_n hx hb dX9_check_4 rfl (lv_at hl 1 rfl) ?_
  refine mm_iald S hC hR h7 (j := cc) (by omega) (by omega) dX9_check_5 ?_
  refine mm_eqi hs7 ?_
  refine lv_istore_n (lv' := [(2, .int (nI jj)), (0, .ref (md 0)), (1, .int (nI cc))]) hx hb dX9_check_6 rfl hl (by decide) rfl (fun ls hl => ?_)
  refine lv_iconst (v := nI 0) hx hb dX9_check_7 (by decide) ?_
  refine lv_istore_n (lv' := [(3, .int (nI 0)), (2, .int (nI jj)), (0, .ref (md 0)), (1, .int (nI cc))]) hx hb dX9_check_8 rfl hl (by decide) rfl (fun ls hl => ?_)
  have loopA : ∀ (n : Nat) (c : Nat) (w22 : Int32) (fm dm pm : Nat → Int32) (M1 : mm_M) (H : Heap) (locs : List Loc) (ls : Array Slot), (4 < c + n) → (c ≤ 4) → (yS G M1 md v6 v9 v11 v12 v13 w22 0 fm dm) → (M1 (md 3) = some (ia G 2016 ss)) → (M1 (md 4) = some (ia G 336 rr0)) → (M1 (md 5) = some (ia G 1152 fs)) → (M1 (md 6) = some (ia G 96 fl)) → (M1 (md 7) = some (ia G 4 s7)) → (M1 (md 15) = some (ia G 512 tt)) → (M1 (md 16) = some (ia G 64 pm)) → (∀ q, q < c → sgd (st q) q) → (mm_fr [md 0, md 10, md 11, md 12, md 13, md 14, md 15, md 16] M M1) → mm_R G s (mm_A M sz) M1 H locs → lv_has ls 7 [(0, .ref (md 0)), (1, .int (nI cc)), (2, .int (nI jj)), (3, .int (nI c))] → W p0 l e0 ({ frames := 5, cells := 0, slots := 0, locals := 230 } : Room) s m0 ([.ref (md 0), .int (nI cc)] : List Value).toArray be0 me0 c0 H locs 0 0 (MQ be0 (va_Qi (fun r M' => ∃ k, k ≤ 4 ∧ r = nI k ∧ fckR (fun q => shf ss (84 * (4 * jj + q))) (shf rr0 (84 * cc)) (rtn (fun x => fs (192 * jj + x)) ln) cc k ∧ ∃ w22 f' d' t' p', yS G M' md v6 v9 v11 v12 v13 w22 0 f' d' ∧ M' (md 15) = some (ia G 512 t') ∧ M' (md 16) = some (ia G 64 p') ∧ mm_fr [md 0, md 10, md 11, md 12, md 13, md 14, md 15, md 16] M M') (fun M' t => mm_H G (mm_A M sz) M' t.heap) (mm_A M sz)) ([.ref (md 0), .int (nI cc)] : List Value).toArray s 0 0 (mm_A M sz)) (F0 m0 9 ls []) := by
    intro n
    induction n with
    | zero =>
      intro c w22 fm dm pm M1 H locs ls hn hi hS h3 h4 h5 h6 h7 h15 h16 kA hF hR hl
      omega
    | succ n ih =>
      intro c w22 fm dm pm M1 H locs ls hn hi hS h3 h4 h5 h6 h7 h15 h16 kA hF hR hl
      have h0 : M1 (md 0) = some (ob 10 [.ref (md 1), .ref (md 2), .ref (md 3), .ref (md 4), .ref (md 5), .ref (md 6), .int v6, .ref (md 7), .ref (md 8), .int v9, .ref (md 9), .int v11, .int v12, .int v13, .ref (md 10), .int (nI 0), .ref (md 11), .ref (md 12), .ref (md 13), .ref (md 14), .ref (md 15), .ref (md 16), .int w22]) := hS.1
      have h10 : M1 (md 10) = some (ia G 256 fm) := hS.2.1
      have h11 : M1 (md 11) = some (ia G 32 dm) := hS.2.2.1
      refine lv_iload_n hx hb dX9_check_9 rfl (lv_at hl 3 rfl) ?_
      refine lv_iconst (v := nI 4) hx hb dX9_check_10 (by decide) ?_
      refine lv_icmp_ge (tgt := 31) hx hb dX9_check_11 (by decide) (fun c1 => ?_) (fun c1 => ?_)
      · have c1 : 4 ≤ c := (nI_leI (a := 4) (b := c) (by omega) (by omega)).mp c1
        have e4 : 4 = c := by omega
        subst e4
        refine lv_iconst (v := nI 0) hx hb dX9_check_31 (by decide) ?_
        refine lv_istore_n (lv' := [(3, .int (nI 0)), (0, .ref (md 0)), (1, .int (nI cc)), (2, .int (nI jj))]) hx hb dX9_check_32 rfl hl (by decide) rfl (fun ls hl => ?_)
        have loopB : ∀ (n : Nat) (i : Nat)  (M1 : mm_M) (H : Heap) (locs : List Loc) (ls : Array Slot), (84 < i + n) → (i ≤ 84) → (yS G M1 md v6 v9 v11 v12 v13 w22 0 fm dm) → (M1 (md 3) = some (ia G 2016 ss)) → (M1 (md 4) = some (ia G 336 rr0)) → (M1 (md 5) = some (ia G 1152 fs)) → (M1 (md 6) = some (ia G 96 fl)) → (M1 (md 7) = some (ia G 4 s7)) → (M1 (md 15) = some (ia G 512 tt)) → (M1 (md 16) = some (ia G 64 pm)) → (∀ j, j < i → st cc j = shf rr0 (84 * cc) j) → (mm_fr [md 0, md 10, md 11, md 12, md 13, md 14, md 15, md 16] M M1) → mm_R G s (mm_A M sz) M1 H locs → lv_has ls 7 [(0, .ref (md 0)), (1, .int (nI cc)), (2, .int (nI jj)), (3, .int (nI i))] → W p0 l e0 ({ frames := 5, cells := 0, slots := 0, locals := 230 } : Room) s m0 ([.ref (md 0), .int (nI cc)] : List Value).toArray be0 me0 c0 H locs 0 0 (MQ be0 (va_Qi (fun r M' => ∃ k, k ≤ 4 ∧ r = nI k ∧ fckR (fun q => shf ss (84 * (4 * jj + q))) (shf rr0 (84 * cc)) (rtn (fun x => fs (192 * jj + x)) ln) cc k ∧ ∃ w22 f' d' t' p', yS G M' md v6 v9 v11 v12 v13 w22 0 f' d' ∧ M' (md 15) = some (ia G 512 t') ∧ M' (md 16) = some (ia G 64 p') ∧ mm_fr [md 0, md 10, md 11, md 12, md 13, md 14, md 15, md 16] M M') (fun M' t => mm_H G (mm_A M sz) M' t.heap) (mm_A M sz)) ([.ref (md 0), .int (nI cc)] : List Value).toArray s 0 0 (mm_A M sz)) (F0 m0 33 ls []) := by
          intro n
          induction n with
          | zero =>
            intro i  M1 H locs ls hn hi hS h3 h4 h5 h6 h7 h15 h16 kB hF hR hl
            omega
          | succ n ih =>
            intro i  M1 H locs ls hn hi hS h3 h4 h5 h6 h7 h15 h16 kB hF hR hl
            have h0 : M1 (md 0) = some (ob 10 [.ref (md 1), .ref (md 2), .ref (md 3), .ref (md 4), .ref (md 5), .ref (md 6), .int v6, .ref (md 7), .ref (md 8), .int v9, .ref (md 9), .int v11, .int v12, .int v13, .ref (md 10), .int (nI 0), .ref (md 11), .ref (md 12), .ref (md 13), .ref (md 14), .ref (md 15), .ref (md 16), .int w22]) := hS.1
            have h10 : M1 (md 10) = some (ia G 256 fm) := hS.2.1
            have h11 : M1 (md 11) = some (ia G 32 dm) := hS.2.2.1
            refine lv_iload_n hx hb dX9_check_33 rfl (lv_at hl 3 rfl) ?_
            refine lv_bipush (v := nI 84) hx hb dX9_check_34 (by decide) ?_
            refine lv_icmp_ge (tgt := 73) hx hb dX9_check_36 (by decide) (fun c2 => ?_) (fun c2 => ?_)
            · have c2 : 84 ≤ i := (nI_leI (a := 84) (b := i) (by omega) (by omega)).mp c2
              have e4 : 84 = i := by omega
              subst e4
              refine lv_iconst (v := nI 0) hx hb dX9_check_73 (by decide) ?_
              refine lv_istore_n (lv' := [(3, .int (nI 0)), (0, .ref (md 0)), (1, .int (nI cc)), (2, .int (nI jj))]) hx hb dX9_check_74 rfl hl (by decide) rfl (fun ls hl => ?_)
              have loopC : ∀ (n : Nat) (a : Nat)  (M1 : mm_M) (H : Heap) (locs : List Loc) (ls : Array Slot), (4 < a + n) → (a ≤ 4) → (yS G M1 md v6 v9 v11 v12 v13 w22 0 fm dm) → (M1 (md 3) = some (ia G 2016 ss)) → (M1 (md 4) = some (ia G 336 rr0)) → (M1 (md 5) = some (ia G 1152 fs)) → (M1 (md 6) = some (ia G 96 fl)) → (M1 (md 7) = some (ia G 4 s7)) → (M1 (md 15) = some (ia G 512 tt)) → (M1 (md 16) = some (ia G 64 pm)) → (∀ x, x < a → ∀ y, y < x → na (st x) (st y) ∨ na (st y) (st x)) → (mm_fr [md 0, md 10, md 11, md 12, md 13, md 14, md 15, md 16] M M1) → mm_R G s (mm_A M sz) M1 H locs → lv_has ls 7 [(0, .ref (md 0)), (1, .int (nI cc)), (2, .int (nI jj)), (3, .int (nI a))] → W p0 l e0 ({ frames := 5, cells := 0, slots := 0, locals := 230 } : Room) s m0 ([.ref (md 0), .int (nI cc)] : List Value).toArray be0 me0 c0 H locs 0 0 (MQ be0 (va_Qi (fun r M' => ∃ k, k ≤ 4 ∧ r = nI k ∧ fckR (fun q => shf ss (84 * (4 * jj + q))) (shf rr0 (84 * cc)) (rtn (fun x => fs (192 * jj + x)) ln) cc k ∧ ∃ w22 f' d' t' p', yS G M' md v6 v9 v11 v12 v13 w22 0 f' d' ∧ M' (md 15) = some (ia G 512 t') ∧ M' (md 16) = some (ia G 64 p') ∧ mm_fr [md 0, md 10, md 11, md 12, md 13, md 14, md 15, md 16] M M') (fun M' t => mm_H G (mm_A M sz) M' t.heap) (mm_A M sz)) ([.ref (md 0), .int (nI cc)] : List Value).toArray s 0 0 (mm_A M sz)) (F0 m0 75 ls []) := by
                intro n
                induction n with
                | zero =>
                  intro a  M1 H locs ls hn hi hS h3 h4 h5 h6 h7 h15 h16 kC hF hR hl
                  omega
                | succ n ih =>
                  intro a  M1 H locs ls hn hi hS h3 h4 h5 h6 h7 h15 h16 kC hF hR hl
                  have h0 : M1 (md 0) = some (ob 10 [.ref (md 1), .ref (md 2), .ref (md 3), .ref (md 4), .ref (md 5), .ref (md 6), .int v6, .ref (md 7), .ref (md 8), .int v9, .ref (md 9), .int v11, .int v12, .int v13, .ref (md 10), .int (nI 0), .ref (md 11), .ref (md 12), .ref (md 13), .ref (md 14), .ref (md 15), .ref (md 16), .int w22]) := hS.1
                  have h10 : M1 (md 10) = some (ia G 256 fm) := hS.2.1
                  have h11 : M1 (md 11) = some (ia G 32 dm) := hS.2.2.1
                  refine lv_iload_n hx hb dX9_check_75 rfl (lv_at hl 3 rfl) ?_
                  refine lv_iconst (v := nI 4) hx hb dX9_check_76 (by decide) ?_
                  refine lv_icmp_ge (tgt := 146) hx hb dX9_check_77 (by decide) (fun c3 => ?_) (fun c3 => ?_)
                  · have c3 : 4 ≤ a := (nI_leI (a := 4) (b := a) (by omega) (by omega)).mp c3
                    have e4 : 4 = a := by omega
                    subst e4
                    have hin : inl st := fun x y hxy hy => (kC y hy x hxy).symm
                    refine lv_aload_n hx hb dX9_check_146 rfl (lv_at hl 0 rfl) ?_
                    refine lv_iload_n hx hb dX9_check_147 rfl (lv_at hl 2 rfl) ?_
                    refine mm_callv hA hR (va_runV (As := [.int (nI jj)]) (rest := []) S (c_X9_findRoot l G M1 _ md _ _ _ _ _ _ _ _ _ jj fs fl _ ln h5 h6 h15 hJ hS hj6 hln hbf) (cwV 1 S.2.2.2.2 gX9_check_X9_findRoot rfl rfl rfl (by decide +kernel) ⟨Nat.le_of_ble_eq_true rfl, Nat.le_of_ble_eq_true rfl⟩) (mm_preV hC hA hR _ h0 rfl) rfl rfl hl.1 rfl (lv_room (Nat.le_of_ble_eq_true rfl)) dX9_check_148 ⟨Nat.le_of_ble_eq_true rfl, Nat.le_of_ble_eq_true rfl⟩) (fun M5 H locs hp hR => ?_)
                    obtain ⟨fb, db, tb, hS, h15, hT, ff⟩ := hp
                    have h3 := ff.at h3 (mm_nc (yne hJ (by decide) (by decide) (by decide)) (mm_nc (yne hJ (by decide) (by decide) (by decide)) (mm_nc (yne hJ (by decide) (by decide) (by decide)) (mm_nc (yne hJ (by decide) (by decide) (by decide)) (mm_nc (yne hJ (by decide) (by decide) (by decide)) (mm_nc (yne hJ (by decide) (by decide) (by decide)) mm_n0))))))
                    have h4 := ff.at h4 (mm_nc (yne hJ (by decide) (by decide) (by decide)) (mm_nc (yne hJ (by decide) (by decide) (by decide)) (mm_nc (yne hJ (by decide) (by decide) (by decide)) (mm_nc (yne hJ (by decide) (by decide) (by decide)) (mm_nc (yne hJ (by decide) (by decide) (by decide)) (mm_nc (yne hJ (by decide) (by decide) (by decide)) mm_n0))))))
                    have h5 := ff.at h5 (mm_nc (yne hJ (by decide) (by decide) (by decide)) (mm_nc (yne hJ (by decide) (by decide) (by decide)) (mm_nc (yne hJ (by decide) (by decide) (by decide)) (mm_nc (yne hJ (by decide) (by decide) (by decide)) (mm_nc (yne hJ (by decide) (by decide) (by decide)) (mm_nc (yne hJ (by decide) (by decide) (by decide)) mm_n0))))))
                    have h6 := ff.at h6 (mm_nc (yne hJ (by decide) (by decide) (by decide)) (mm_nc (yne hJ (by decide) (by decide) (by decide)) (mm_nc (yne hJ (by decide) (by decide) (by decide)) (mm_nc (yne hJ (by decide) (by decide) (by decide)) (mm_nc (yne hJ (by decide) (by decide) (by decide)) (mm_nc (yne hJ (by decide) (by decide) (by decide)) mm_n0))))))
                    have h7 := ff.at h7 (mm_nc (yne hJ (by decide) (by decide) (by decide)) (mm_nc (yne hJ (by decide) (by decide) (by decide)) (mm_nc (yne hJ (by decide) (by decide) (by decide)) (mm_nc (yne hJ (by decide) (by decide) (by decide)) (mm_nc (yne hJ (by decide) (by decide) (by decide)) (mm_nc (yne hJ (by decide) (by decide) (by decide)) mm_n0))))))
                    have h16 := ff.at h16 (mm_nc (yne hJ (by decide) (by decide) (by decide)) (mm_nc (yne hJ (by decide) (by decide) (by decide)) (mm_nc (yne hJ (by decide) (by decide) (by decide)) (mm_nc (yne hJ (by decide) (by decide) (by decide)) (mm_nc (yne hJ (by decide) (by decide) (by decide)) (mm_nc (yne hJ (by decide) (by decide) (by decide)) mm_n0))))))
                    have h0 : M5 (md 0) = some (ob 10 [.ref (md 1), .ref (md 2), .ref (md 3), .ref (md 4), .ref (md 5), .ref (md 6), .int v6, .ref (md 7), .ref (md 8), .int v9, .ref (md 9), .int v11, .int v12, .int v13, .ref (md 10), .int (nI 0), .ref (md 11), .ref (md 12), .ref (md 13), .ref (md 14), .ref (md 15), .ref (md 16), .int w22]) := hS.1
                    have h10 : M5 (md 10) = some (ia G 256 fb) := hS.2.1
                    have h11 : M5 (md 11) = some (ia G 32 db) := hS.2.2.1
                    have h15 : M5 (md 15) = some (ia G 512 tb) := h15
                    have hF := hF.tr ff (mm_ic 0 rfl (mm_ic 1 rfl (mm_ic 2 rfl (mm_ic 4 rfl (mm_ic 5 rfl (mm_ic 6 rfl mm_i0))))))
                    refine lv_iload_n hx hb dX9_check_151 rfl (lv_at hl 2 rfl) ?_
                    refine lv_aload_n hx hb dX9_check_152 rfl (lv_at hl 0 rfl) ?_
                    refine lv_iload_n hx hb dX9_check_153 rfl (lv_at hl 2 rfl) ?_
                    refine mm_calli hA hR (va_runV (As := [.int (nI jj)]) (rest := [.int (nI jj)]) S (c_X9_greatest l G M5 _ md _ _ _ _ _ _ _ _ _ jj ss h3 hJ hS hj6 (by rw [← est]; exact hin)) (cwV 1 S.2.2.2.2 gX9_check_X9_greatest rfl rfl rfl (by decide +kernel) ⟨Nat.le_of_ble_eq_true rfl, Nat.le_of_ble_eq_true rfl⟩) (mm_preV hC hA hR _ h0 rfl) rfl rfl hl.1 rfl (lv_room (Nat.le_of_ble_eq_true rfl)) dX9_check_154 ⟨Nat.le_of_ble_eq_true rfl, Nat.le_of_ble_eq_true rfl⟩) (fun r6 M7 H locs hp hR => ?_)
                    obtain ⟨er, eM⟩ := hp
                    subst eM
                    rw [← est] at er
                    subst er
                    obtain ⟨g, eg⟩ : ∃ z, z = gr st := ⟨_, rfl⟩
                    have hg4 : g < 4 := by rw [eg]; exact gr_lt st
                    refine mm_eqi (congrArg nI (show gr st = g by omega)) ?_
                    refine mm_calli hA hR (va_runS (As := [.int (nI jj), .int (nI g)]) (rest := []) S (c_X9_placeOf l G M5 _ jj g) (va_cwS 2 S.2.2.2.2 gX9_check_X9_placeOf rfl rfl rfl (by decide +kernel) ⟨Nat.le_of_ble_eq_true rfl, Nat.le_of_ble_eq_true rfl⟩) (mm_preS hC hA hR _) rfl rfl hl.1 rfl (lv_room (Nat.le_of_ble_eq_true rfl)) dX9_check_157 ⟨Nat.le_of_ble_eq_true rfl, Nat.le_of_ble_eq_true rfl⟩) (fun r8 M9 H locs hp hR => ?_)
                    obtain ⟨er, eM⟩ := hp
                    subst eM
                    subst er
                    refine lv_bipush (v := nI 20) hx hb dX9_check_160 (by decide) ?_
                    refine lv_iadd hx hb dX9_check_162 ?_
                    refine mm_eqi (nI_add _ _) ?_
                    refine lv_istore_n (lv' := [(3, .int (nI (84 * (4 * jj + g) + 20))), (0, .ref (md 0)), (1, .int (nI cc)), (2, .int (nI jj))]) hx hb dX9_check_163 rfl hl (by decide) rfl (fun ls hl => ?_)
                    refine lv_iconst (v := nI 0) hx hb dX9_check_164 (by decide) ?_
                    refine lv_istore (lv' := [(4, .int (nI 0)), (3, .int (nI (84 * (4 * jj + g) + 20))), (0, .ref (md 0)), (1, .int (nI cc)), (2, .int (nI jj))]) hx hb dX9_check_165 hl (by decide) rfl (fun ls hl => ?_)
                    have loopD : ∀ (n : Nat) (i : Nat)  (M1 : mm_M) (H : Heap) (locs : List Loc) (ls : Array Slot), (32 < i + n) → (i ≤ 32) → (yS G M1 md v6 v9 v11 v12 v13 w22 0 fb db) → (M1 (md 3) = some (ia G 2016 ss)) → (M1 (md 4) = some (ia G 336 rr0)) → (M1 (md 5) = some (ia G 1152 fs)) → (M1 (md 6) = some (ia G 96 fl)) → (M1 (md 7) = some (ia G 4 s7)) → (M1 (md 15) = some (ia G 512 tb)) → (M1 (md 16) = some (ia G 64 pm)) → (∀ j, j < i → st g (20 + j) = tb j) → (mm_fr [md 0, md 10, md 11, md 12, md 13, md 14, md 15, md 16] M M1) → mm_R G s (mm_A M sz) M1 H locs → lv_has ls 7 [(0, .ref (md 0)), (1, .int (nI cc)), (2, .int (nI jj)), (3, .int (nI (84 * (4 * jj + g) + 20))), (4, .int (nI i))] → W p0 l e0 ({ frames := 5, cells := 0, slots := 0, locals := 230 } : Room) s m0 ([.ref (md 0), .int (nI cc)] : List Value).toArray be0 me0 c0 H locs 0 0 (MQ be0 (va_Qi (fun r M' => ∃ k, k ≤ 4 ∧ r = nI k ∧ fckR (fun q => shf ss (84 * (4 * jj + q))) (shf rr0 (84 * cc)) (rtn (fun x => fs (192 * jj + x)) ln) cc k ∧ ∃ w22 f' d' t' p', yS G M' md v6 v9 v11 v12 v13 w22 0 f' d' ∧ M' (md 15) = some (ia G 512 t') ∧ M' (md 16) = some (ia G 64 p') ∧ mm_fr [md 0, md 10, md 11, md 12, md 13, md 14, md 15, md 16] M M') (fun M' t => mm_H G (mm_A M sz) M' t.heap) (mm_A M sz)) ([.ref (md 0), .int (nI cc)] : List Value).toArray s 0 0 (mm_A M sz)) (F0 m0 167 ls []) := by
                      intro n
                      induction n with
                      | zero =>
                        intro i  M1 H locs ls hn hi hS h3 h4 h5 h6 h7 h15 h16 kE hF hR hl
                        omega
                      | succ n ih =>
                        intro i  M1 H locs ls hn hi hS h3 h4 h5 h6 h7 h15 h16 kE hF hR hl
                        have h0 : M1 (md 0) = some (ob 10 [.ref (md 1), .ref (md 2), .ref (md 3), .ref (md 4), .ref (md 5), .ref (md 6), .int v6, .ref (md 7), .ref (md 8), .int v9, .ref (md 9), .int v11, .int v12, .int v13, .ref (md 10), .int (nI 0), .ref (md 11), .ref (md 12), .ref (md 13), .ref (md 14), .ref (md 15), .ref (md 16), .int w22]) := hS.1
                        have h10 : M1 (md 10) = some (ia G 256 fb) := hS.2.1
                        have h11 : M1 (md 11) = some (ia G 32 db) := hS.2.2.1
                        refine lv_iload hx hb dX9_check_167 (lv_at hl 4 rfl) ?_
                        refine lv_bipush (v := nI 32) hx hb dX9_check_169 (by decide) ?_
                        refine lv_icmp_ge (tgt := 201) hx hb dX9_check_171 (by decide) (fun c10 => ?_) (fun c10 => ?_)
                        · have c10 : 32 ≤ i := (nI_leI (a := 32) (b := i) (by omega) (by omega)).mp c10
                          have e4 : 32 = i := by omega
                          subst e4
                          refine lv_iconst (v := nI 0) hx hb dX9_check_201 (by decide) ?_
                          exact mm_iret S hr hlocks hR (by rw [← est]; exact ⟨0, by decide, rfl, Or.inr (Or.inr (Or.inr (Or.inl ⟨rfl, kA, kB, hin, fun j hj => by rw [rtn_at, ← hT j hj, ← eg, kE j hj]⟩))), ⟨_, _, _, _, _, hS, h15, h16, hF⟩⟩) dX9_check_202
                        · have c10 : ¬ (32 ≤ i) := fun z => c10 ((nI_leI (a := 32) (b := i) (by omega) (by omega)).mpr z)
                          refine lv_aload_n hx hb dX9_check_174 rfl (lv_at hl 0 rfl) ?_
                          refine mm_get S hC hR (C := RX9) (T := TX9) (N := 23) (ref := "ForkWatchModel") (v := .ref (md 3)) 2 h0 inRX9 rfl (by decide) (by decide +kernel) (fun _ h9 => h9) rfl dX9_check_175 ?_
                          refine lv_iload_n hx hb dX9_check_178 rfl (lv_at hl 3 rfl) ?_
                          refine lv_iload hx hb dX9_check_179 (lv_at hl 4 rfl) ?_
                          refine lv_iadd hx hb dX9_check_181 ?_
                          refine mm_eqi (nI_add _ _) ?_
                          refine mm_iald S hC hR h3 (j := (84 * (4 * jj + g) + 20 + i)) (by omega) (by omega) dX9_check_182 ?_
                          refine lv_aload_n hx hb dX9_check_183 rfl (lv_at hl 0 rfl) ?_
                          refine mm_get S hC hR (C := RX9) (T := TX9) (N := 23) (ref := "ForkWatchModel") (v := .ref (md 15)) 20 h0 inRX9 rfl (by decide) (by decide +kernel) (fun _ h9 => h9) rfl dX9_check_184 ?_
                          refine lv_iload hx hb dX9_check_187 (lv_at hl 4 rfl) ?_
                          refine mm_iald S hC hR h15 (j := i) (by omega) (by omega) dX9_check_189 ?_
                          refine lv_icmp_eq (tgt := 195) hx hb dX9_check_190 (by decide) (fun c4 => ?_) (fun c4 => ?_)
                          · skip
                            have c4 : st g (20 + i) = tb i := by rw [← hss, ← Nat.add_assoc]; exact c4
                            refine lv_iinc (v := (nI (i + 1))) (lv' := [(4, .int (nI (i + 1))), (0, .ref (md 0)), (1, .int (nI cc)), (2, .int (nI jj)), (3, .int (nI (84 * (4 * jj + g) + 20)))]) hx hb dX9_check_195 hl (k := 4) rfl (by rw [show Int32.ofInt 1 = nI 1 from by decide]; exact nI_add _ _) (by decide) rfl (fun ls hl => ?_)
                            refine lv_goto (tgt := 167) hx hb dX9_check_198 (by decide) ?_
                            exact ih (i + 1)  _ H locs ls (by omega) (by omega) hS h3 h4 h5 h6 h7 h15 h16 (lt_s kE c4) hF hR (lv_sub hl [1, 2, 3, 4, 0] rfl)
                          · skip
                            have c4 : ¬ st g (20 + i) = tb i := fun z => c4 (by rw [Nat.add_assoc, hss]; exact z)
                            refine lv_iconst (v := nI 4) hx hb dX9_check_193 (by decide) ?_
                            exact mm_iret S hr hlocks hR (by rw [← est]; exact ⟨4, by decide, rfl, Or.inr (Or.inr (Or.inr (Or.inr ⟨rfl, kA, kB, hin, fun z => c4 (by rw [eg, ← z i (by omega), rtn_at, hT i (by omega)])⟩))), ⟨_, _, _, _, _, hS, h15, h16, hF⟩⟩) dX9_check_194
                    exact loopD (32 + 1) 0  _ _ _ ls (by omega) (by omega) hS h3 h4 h5 h6 h7 h15 h16 (fun j hj => absurd hj (Nat.not_lt_zero j)) hF hR (lv_sub hl [2, 3, 4, 1, 0] rfl)
                  · have c3 : ¬ (4 ≤ a) := fun z => c3 ((nI_leI (a := 4) (b := a) (by omega) (by omega)).mpr z)
                    have ihC := ih
                    refine lv_iconst (v := nI 0) hx hb dX9_check_80 (by decide) ?_
                    refine lv_istore (lv' := [(4, .int (nI 0)), (0, .ref (md 0)), (1, .int (nI cc)), (2, .int (nI jj)), (3, .int (nI a))]) hx hb dX9_check_81 hl (by decide) rfl (fun ls hl => ?_)
                    have loopE : ∀ (n : Nat) (b : Nat)  (M1 : mm_M) (H : Heap) (locs : List Loc) (ls : Array Slot), (a < b + n) → (b ≤ a) → (yS G M1 md v6 v9 v11 v12 v13 w22 0 fm dm) → (M1 (md 3) = some (ia G 2016 ss)) → (M1 (md 4) = some (ia G 336 rr0)) → (M1 (md 5) = some (ia G 1152 fs)) → (M1 (md 6) = some (ia G 96 fl)) → (M1 (md 7) = some (ia G 4 s7)) → (M1 (md 15) = some (ia G 512 tt)) → (M1 (md 16) = some (ia G 64 pm)) → (∀ y, y < b → na (st a) (st y) ∨ na (st y) (st a)) → (mm_fr [md 0, md 10, md 11, md 12, md 13, md 14, md 15, md 16] M M1) → mm_R G s (mm_A M sz) M1 H locs → lv_has ls 7 [(0, .ref (md 0)), (1, .int (nI cc)), (2, .int (nI jj)), (3, .int (nI a)), (4, .int (nI b))] → W p0 l e0 ({ frames := 5, cells := 0, slots := 0, locals := 230 } : Room) s m0 ([.ref (md 0), .int (nI cc)] : List Value).toArray be0 me0 c0 H locs 0 0 (MQ be0 (va_Qi (fun r M' => ∃ k, k ≤ 4 ∧ r = nI k ∧ fckR (fun q => shf ss (84 * (4 * jj + q))) (shf rr0 (84 * cc)) (rtn (fun x => fs (192 * jj + x)) ln) cc k ∧ ∃ w22 f' d' t' p', yS G M' md v6 v9 v11 v12 v13 w22 0 f' d' ∧ M' (md 15) = some (ia G 512 t') ∧ M' (md 16) = some (ia G 64 p') ∧ mm_fr [md 0, md 10, md 11, md 12, md 13, md 14, md 15, md 16] M M') (fun M' t => mm_H G (mm_A M sz) M' t.heap) (mm_A M sz)) ([.ref (md 0), .int (nI cc)] : List Value).toArray s 0 0 (mm_A M sz)) (F0 m0 83 ls []) := by
                      intro n
                      induction n with
                      | zero =>
                        intro b  M1 H locs ls hn hi hS h3 h4 h5 h6 h7 h15 h16 kD hF hR hl
                        omega
                      | succ n ih =>
                        intro b  M1 H locs ls hn hi hS h3 h4 h5 h6 h7 h15 h16 kD hF hR hl
                        have h0 : M1 (md 0) = some (ob 10 [.ref (md 1), .ref (md 2), .ref (md 3), .ref (md 4), .ref (md 5), .ref (md 6), .int v6, .ref (md 7), .ref (md 8), .int v9, .ref (md 9), .int v11, .int v12, .int v13, .ref (md 10), .int (nI 0), .ref (md 11), .ref (md 12), .ref (md 13), .ref (md 14), .ref (md 15), .ref (md 16), .int w22]) := hS.1
                        have h10 : M1 (md 10) = some (ia G 256 fm) := hS.2.1
                        have h11 : M1 (md 11) = some (ia G 32 dm) := hS.2.2.1
                        refine lv_iload hx hb dX9_check_83 (lv_at hl 4 rfl) ?_
                        refine lv_iload_n hx hb dX9_check_85 rfl (lv_at hl 3 rfl) ?_
                        refine lv_icmp_ge (tgt := 140) hx hb dX9_check_86 (by decide) (fun c11 => ?_) (fun c11 => ?_)
                        · have c11 : a ≤ b := (nI_leI (a := a) (b := b) (by omega) (by omega)).mp c11
                          have e4 : b = a := by omega
                          rw [e4] at kD
                          refine lv_iinc (v := (nI (a + 1))) (lv' := [(3, .int (nI (a + 1))), (0, .ref (md 0)), (1, .int (nI cc)), (2, .int (nI jj)), (4, .int (nI b))]) hx hb dX9_check_140 hl (k := 3) rfl (by rw [show Int32.ofInt 1 = nI 1 from by decide]; exact nI_add _ _) (by decide) rfl (fun ls hl => ?_)
                          refine lv_goto (tgt := 75) hx hb dX9_check_143 (by decide) ?_
                          exact ihC (a + 1)  _ H locs ls (by omega) (by omega) hS h3 h4 h5 h6 h7 h15 h16 (lt_s kC kD) hF hR (lv_sub hl [1, 2, 3, 0] rfl)
                        · have c11 : ¬ (a ≤ b) := fun z => c11 ((nI_leI (a := a) (b := b) (by omega) (by omega)).mpr z)
                          refine lv_iload_n hx hb dX9_check_89 rfl (lv_at hl 2 rfl) ?_
                          refine lv_iload_n hx hb dX9_check_90 rfl (lv_at hl 3 rfl) ?_
                          refine mm_calli hA hR (va_runS (As := [.int (nI jj), .int (nI a)]) (rest := []) S (c_X9_placeOf l G M1 _ jj a) (va_cwS 2 S.2.2.2.2 gX9_check_X9_placeOf rfl rfl rfl (by decide +kernel) ⟨Nat.le_of_ble_eq_true rfl, Nat.le_of_ble_eq_true rfl⟩) (mm_preS hC hA hR _) rfl rfl hl.1 rfl (lv_room (Nat.le_of_ble_eq_true rfl)) dX9_check_91 ⟨Nat.le_of_ble_eq_true rfl, Nat.le_of_ble_eq_true rfl⟩) (fun r12 M13 H locs hp hR => ?_)
                          obtain ⟨er, eM⟩ := hp
                          subst eM
                          subst er
                          refine lv_istore (lv' := [(5, .int (nI (84 * (4 * jj + a)))), (0, .ref (md 0)), (1, .int (nI cc)), (2, .int (nI jj)), (3, .int (nI a)), (4, .int (nI b))]) hx hb dX9_check_94 hl (by decide) rfl (fun ls hl => ?_)
                          refine lv_iload_n hx hb dX9_check_96 rfl (lv_at hl 3 rfl) ?_
                          refine lv_iload hx hb dX9_check_97 (lv_at hl 5 rfl) ?_
                          refine mm_calli hA hR (va_runS (As := [.int (nI jj), .int (nI b)]) (rest := []) S (c_X9_placeOf l G M1 _ jj b) (va_cwS 2 S.2.2.2.2 gX9_check_X9_placeOf rfl rfl rfl (by decide +kernel) ⟨Nat.le_of_ble_eq_true rfl, Nat.le_of_ble_eq_true rfl⟩) (mm_preS hC hA hR _) rfl rfl hl.1 rfl (lv_room (Nat.le_of_ble_eq_true rfl)) dX9_check_99 ⟨Nat.le_of_ble_eq_true rfl, Nat.le_of_ble_eq_true rfl⟩) (fun r14 M15 H locs hp hR => ?_)
                          obtain ⟨er, eM⟩ := hp
                          subst eM
                          subst er
                          refine lv_istore (lv' := [(6, .int (nI (84 * (4 * jj + b)))), (5, .int (nI (84 * (4 * jj + a)))), (0, .ref (md 0)), (1, .int (nI cc)), (2, .int (nI jj)), (3, .int (nI a)), (4, .int (nI b))]) hx hb dX9_check_102 hl (by decide) rfl (fun ls hl => ?_)
                          refine lv_aload_n hx hb dX9_check_104 rfl (lv_at hl 2 rfl) ?_
                          refine mm_get S hC hR (C := RX9) (T := TX9) (N := 23) (ref := "ForkWatchModel") (v := .ref (md 3)) 2 h0 inRX9 rfl (by decide) (by decide +kernel) (fun _ h9 => h9) rfl dX9_check_105 ?_
                          refine lv_iload hx hb dX9_check_108 (lv_at hl 1 rfl) ?_
                          refine lv_iload hx hb dX9_check_110 (lv_at hl 0 rfl) ?_
                          refine mm_calli hA hR (va_runS (As := [.ref (md 3), .int (nI (84 * (4 * jj + a))), .int (nI (84 * (4 * jj + b)))]) (rest := []) S (c_X9_isNotAbove l G M1 _ (md 3) 2016 (84 * (4 * jj + a)) (84 * (4 * jj + b)) ss h3 (by omega) (by omega) (by decide)) (va_cwS 3 S.2.2.2.2 gX9_check_X9_isNotAbove rfl rfl rfl (by decide +kernel) ⟨Nat.le_of_ble_eq_true rfl, Nat.le_of_ble_eq_true rfl⟩) (mm_preS hC hA hR _) rfl rfl hl.1 rfl (lv_room (Nat.le_of_ble_eq_true rfl)) dX9_check_112 ⟨Nat.le_of_ble_eq_true rfl, Nat.le_of_ble_eq_true rfl⟩) (fun r16 M17 H locs hp hR => ?_)
                          obtain ⟨er, eM⟩ := hp
                          subst eM
                          rw [hst, hst] at er
                          rcases er with ⟨er, e2⟩ | ⟨er, e2⟩ <;> subst er
                          · skip
                            refine lv_if_ne (tgt := 134) hx hb dX9_check_115 (by decide) (fun _ => ?_) (fun z => by first | exact absurd z (by decide) | exact absurd (by decide) z)
                            refine lv_iinc (v := (nI (b + 1))) (lv' := [(4, .int (nI (b + 1))), (6, .int (nI (84 * (4 * jj + b)))), (5, .int (nI (84 * (4 * jj + a)))), (0, .ref (md 0)), (1, .int (nI cc)), (2, .int (nI jj)), (3, .int (nI a))]) hx hb dX9_check_134 hl (k := 6) rfl (by rw [show Int32.ofInt 1 = nI 1 from by decide]; exact nI_add _ _) (by decide) rfl (fun ls hl => ?_)
                            refine lv_goto (tgt := 83) hx hb dX9_check_137 (by decide) ?_
                            exact ih (b + 1)  _ H locs ls (by omega) (by omega) hS h3 h4 h5 h6 h7 h15 h16 (lt_s kD (Or.inl e2)) hF hR (lv_sub hl [3, 4, 5, 6, 0] rfl)
                          · skip
                            refine lv_if_ne (tgt := 134) hx hb dX9_check_115 (by decide) (fun z => by first | exact absurd z (by decide) | exact absurd (by decide) z) (fun _ => ?_)
                            refine lv_aload_n hx hb dX9_check_118 rfl (lv_at hl 2 rfl) ?_
                            refine mm_get S hC hR (C := RX9) (T := TX9) (N := 23) (ref := "ForkWatchModel") (v := .ref (md 3)) 2 h0 inRX9 rfl (by decide) (by decide +kernel) (fun _ h9 => h9) rfl dX9_check_119 ?_
                            refine lv_iload hx hb dX9_check_122 (lv_at hl 0 rfl) ?_
                            refine lv_iload hx hb dX9_check_124 (lv_at hl 1 rfl) ?_
                            refine mm_calli hA hR (va_runS (As := [.ref (md 3), .int (nI (84 * (4 * jj + b))), .int (nI (84 * (4 * jj + a)))]) (rest := []) S (c_X9_isNotAbove l G M1 _ (md 3) 2016 (84 * (4 * jj + b)) (84 * (4 * jj + a)) ss h3 (by omega) (by omega) (by decide)) (va_cwS 3 S.2.2.2.2 gX9_check_X9_isNotAbove rfl rfl rfl (by decide +kernel) ⟨Nat.le_of_ble_eq_true rfl, Nat.le_of_ble_eq_true rfl⟩) (mm_preS hC hA hR _) rfl rfl hl.1 rfl (lv_room (Nat.le_of_ble_eq_true rfl)) dX9_check_126 ⟨Nat.le_of_ble_eq_true rfl, Nat.le_of_ble_eq_true rfl⟩) (fun r18 M19 H locs hp hR => ?_)
                            obtain ⟨er, eM⟩ := hp
                            subst eM
                            rw [hst, hst] at er
                            rcases er with ⟨er, e3⟩ | ⟨er, e3⟩ <;> subst er
                            · skip
                              refine lv_if_ne (tgt := 134) hx hb dX9_check_129 (by decide) (fun _ => ?_) (fun z => by first | exact absurd z (by decide) | exact absurd (by decide) z)
                              refine lv_iinc (v := (nI (b + 1))) (lv' := [(4, .int (nI (b + 1))), (6, .int (nI (84 * (4 * jj + b)))), (5, .int (nI (84 * (4 * jj + a)))), (0, .ref (md 0)), (1, .int (nI cc)), (2, .int (nI jj)), (3, .int (nI a))]) hx hb dX9_check_134 hl (k := 6) rfl (by rw [show Int32.ofInt 1 = nI 1 from by decide]; exact nI_add _ _) (by decide) rfl (fun ls hl => ?_)
                              refine lv_goto (tgt := 83) hx hb dX9_check_137 (by decide) ?_
                              exact ih (b + 1)  _ H locs ls (by omega) (by omega) hS h3 h4 h5 h6 h7 h15 h16 (lt_s kD (Or.inr e3)) hF hR (lv_sub hl [3, 4, 5, 6, 0] rfl)
                            · skip
                              refine lv_if_ne (tgt := 134) hx hb dX9_check_129 (by decide) (fun z => by first | exact absurd z (by decide) | exact absurd (by decide) z) (fun _ => ?_)
                              refine lv_iconst (v := nI 3) hx hb dX9_check_132 (by decide) ?_
                              exact mm_iret S hr hlocks hR (by rw [← est]; exact ⟨3, by decide, rfl, Or.inr (Or.inr (Or.inl ⟨rfl, kA, kB, fun z => (z b a (by omega) (by omega)).elim e3 e2⟩)), ⟨_, _, _, _, _, hS, h15, h16, hF⟩⟩) dX9_check_133
                    exact loopE (a + 1) 0  _ _ _ ls (by omega) (by omega) hS h3 h4 h5 h6 h7 h15 h16 (fun j hj => absurd hj (Nat.not_lt_zero j)) hF hR (lv_sub hl [1, 2, 3, 4, 0] rfl)
              exact loopC (4 + 1) 0  _ _ _ ls (by omega) (by omega) hS h3 h4 h5 h6 h7 h15 h16 (fun j hj => absurd hj (Nat.not_lt_zero j)) hF hR (lv_sub hl [1, 2, 3, 0] rfl)
            · have c2 : ¬ (84 ≤ i) := fun z => c2 ((nI_leI (a := 84) (b := i) (by omega) (by omega)).mpr z)
              refine lv_aload_n hx hb dX9_check_39 rfl (lv_at hl 0 rfl) ?_
              refine mm_get S hC hR (C := RX9) (T := TX9) (N := 23) (ref := "ForkWatchModel") (v := .ref (md 3)) 2 h0 inRX9 rfl (by decide) (by decide +kernel) (fun _ h9 => h9) rfl dX9_check_40 ?_
              refine lv_iload_n hx hb dX9_check_43 rfl (lv_at hl 2 rfl) ?_
              refine lv_iload_n hx hb dX9_check_44 rfl (lv_at hl 1 rfl) ?_
              refine mm_calli hA hR (va_runS (As := [.int (nI jj), .int (nI cc)]) (rest := [.ref (md 3)]) S (c_X9_placeOf l G M1 _ jj cc) (va_cwS 2 S.2.2.2.2 gX9_check_X9_placeOf rfl rfl rfl (by decide +kernel) ⟨Nat.le_of_ble_eq_true rfl, Nat.le_of_ble_eq_true rfl⟩) (mm_preS hC hA hR _) rfl rfl hl.1 rfl (lv_room (Nat.le_of_ble_eq_true rfl)) dX9_check_45 ⟨Nat.le_of_ble_eq_true rfl, Nat.le_of_ble_eq_true rfl⟩) (fun r20 M21 H locs hp hR => ?_)
              obtain ⟨er, eM⟩ := hp
              subst eM
              subst er
              refine lv_iload_n hx hb dX9_check_48 rfl (lv_at hl 3 rfl) ?_
              refine lv_iadd hx hb dX9_check_49 ?_
              refine mm_eqi (nI_add _ _) ?_
              refine mm_iald S hC hR h3 (j := (84 * (4 * jj + cc) + i)) (by omega) (by omega) dX9_check_50 ?_
              refine lv_aload_n hx hb dX9_check_51 rfl (lv_at hl 0 rfl) ?_
              refine mm_get S hC hR (C := RX9) (T := TX9) (N := 23) (ref := "ForkWatchModel") (v := .ref (md 4)) 3 h0 inRX9 rfl (by decide) (by decide +kernel) (fun _ h9 => h9) rfl dX9_check_52 ?_
              refine lv_bipush (v := nI 84) hx hb dX9_check_55 (by decide) ?_
              refine lv_iload_n hx hb dX9_check_57 rfl (lv_at hl 1 rfl) ?_
              refine lv_imul hx hb dX9_check_58 ?_
              refine mm_eqi (pk_mul _ _) ?_
              refine lv_iload_n hx hb dX9_check_59 rfl (lv_at hl 3 rfl) ?_
              refine lv_iadd hx hb dX9_check_60 ?_
              refine mm_eqi (nI_add _ _) ?_
              refine mm_iald S hC hR h4 (j := (84 * cc + i)) (by omega) (by omega) dX9_check_61 ?_
              refine lv_icmp_eq (tgt := 67) hx hb dX9_check_62 (by decide) (fun c2 => ?_) (fun c2 => ?_)
              · skip
                have c2 : st cc i = shf rr0 (84 * cc) i := by rw [← hss]; exact c2
                refine lv_iinc (v := (nI (i + 1))) (lv' := [(3, .int (nI (i + 1))), (0, .ref (md 0)), (1, .int (nI cc)), (2, .int (nI jj))]) hx hb dX9_check_67 hl (k := 3) rfl (by rw [show Int32.ofInt 1 = nI 1 from by decide]; exact nI_add _ _) (by decide) rfl (fun ls hl => ?_)
                refine lv_goto (tgt := 33) hx hb dX9_check_70 (by decide) ?_
                exact ih (i + 1)  _ H locs ls (by omega) (by omega) hS h3 h4 h5 h6 h7 h15 h16 (lt_s kB c2) hF hR (lv_sub hl [1, 2, 3, 0] rfl)
              · skip
                have c2 : ¬ st cc i = shf rr0 (84 * cc) i := fun z => c2 (by rw [hss]; exact z)
                refine lv_iconst (v := nI 2) hx hb dX9_check_65 (by decide) ?_
                exact mm_iret S hr hlocks hR (by rw [← est]; exact ⟨2, by decide, rfl, Or.inr (Or.inl ⟨rfl, kA, fun z => c2 (z i (by omega))⟩), ⟨_, _, _, _, _, hS, h15, h16, hF⟩⟩) dX9_check_66
        exact loopB (84 + 1) 0  _ _ _ ls (by omega) (by omega) hS h3 h4 h5 h6 h7 h15 h16 (fun j hj => absurd hj (Nat.not_lt_zero j)) hF hR (lv_sub hl [1, 2, 3, 0] rfl)
      · have c1 : ¬ (4 ≤ c) := fun z => c1 ((nI_leI (a := 4) (b := c) (by omega) (by omega)).mpr z)
        refine lv_aload_n hx hb dX9_check_14 rfl (lv_at hl 0 rfl) ?_
        refine lv_iload_n hx hb dX9_check_15 rfl (lv_at hl 2 rfl) ?_
        refine lv_iload_n hx hb dX9_check_16 rfl (lv_at hl 3 rfl) ?_
        refine mm_calli hA hR (va_runV (As := [.int (nI jj), .int (nI c)]) (rest := []) S (c_X9_isSigned l G M1 _ md _ _ _ _ _ _ _ _ _ jj c ss pm h3 h16 hJ hS hj6 (by omega) (hbs c (by omega))) (cwV 2 S.2.2.2.2 gX9_check_X9_isSigned rfl rfl rfl (by decide +kernel) ⟨Nat.le_of_ble_eq_true rfl, Nat.le_of_ble_eq_true rfl⟩) (mm_preV hC hA hR _ h0 rfl) rfl rfl hl.1 rfl (lv_room (Nat.le_of_ble_eq_true rfl)) dX9_check_17 ⟨Nat.le_of_ble_eq_true rfl, Nat.le_of_ble_eq_true rfl⟩) (fun r22 M23 H locs hp hR => ?_)
        obtain ⟨hq, fb, db, pb, hS, h16, ff⟩ := hp
        have h3 := ff.at h3 (mm_nc (yne hJ (by decide) (by decide) (by decide)) (mm_nc (yne hJ (by decide) (by decide) (by decide)) (mm_nc (yne hJ (by decide) (by decide) (by decide)) (mm_nc (yne hJ (by decide) (by decide) (by decide)) (mm_nc (yne hJ (by decide) (by decide) (by decide)) (mm_nc (yne hJ (by decide) (by decide) (by decide)) (mm_nc (yne hJ (by decide) (by decide) (by decide)) mm_n0)))))))
        have h4 := ff.at h4 (mm_nc (yne hJ (by decide) (by decide) (by decide)) (mm_nc (yne hJ (by decide) (by decide) (by decide)) (mm_nc (yne hJ (by decide) (by decide) (by decide)) (mm_nc (yne hJ (by decide) (by decide) (by decide)) (mm_nc (yne hJ (by decide) (by decide) (by decide)) (mm_nc (yne hJ (by decide) (by decide) (by decide)) (mm_nc (yne hJ (by decide) (by decide) (by decide)) mm_n0)))))))
        have h5 := ff.at h5 (mm_nc (yne hJ (by decide) (by decide) (by decide)) (mm_nc (yne hJ (by decide) (by decide) (by decide)) (mm_nc (yne hJ (by decide) (by decide) (by decide)) (mm_nc (yne hJ (by decide) (by decide) (by decide)) (mm_nc (yne hJ (by decide) (by decide) (by decide)) (mm_nc (yne hJ (by decide) (by decide) (by decide)) (mm_nc (yne hJ (by decide) (by decide) (by decide)) mm_n0)))))))
        have h6 := ff.at h6 (mm_nc (yne hJ (by decide) (by decide) (by decide)) (mm_nc (yne hJ (by decide) (by decide) (by decide)) (mm_nc (yne hJ (by decide) (by decide) (by decide)) (mm_nc (yne hJ (by decide) (by decide) (by decide)) (mm_nc (yne hJ (by decide) (by decide) (by decide)) (mm_nc (yne hJ (by decide) (by decide) (by decide)) (mm_nc (yne hJ (by decide) (by decide) (by decide)) mm_n0)))))))
        have h7 := ff.at h7 (mm_nc (yne hJ (by decide) (by decide) (by decide)) (mm_nc (yne hJ (by decide) (by decide) (by decide)) (mm_nc (yne hJ (by decide) (by decide) (by decide)) (mm_nc (yne hJ (by decide) (by decide) (by decide)) (mm_nc (yne hJ (by decide) (by decide) (by decide)) (mm_nc (yne hJ (by decide) (by decide) (by decide)) (mm_nc (yne hJ (by decide) (by decide) (by decide)) mm_n0)))))))
        have h15 := ff.at h15 (mm_nc (yne hJ (by decide) (by decide) (by decide)) (mm_nc (yne hJ (by decide) (by decide) (by decide)) (mm_nc (yne hJ (by decide) (by decide) (by decide)) (mm_nc (yne hJ (by decide) (by decide) (by decide)) (mm_nc (yne hJ (by decide) (by decide) (by decide)) (mm_nc (yne hJ (by decide) (by decide) (by decide)) (mm_nc (yne hJ (by decide) (by decide) (by decide)) mm_n0)))))))
        have h0 : M23 (md 0) = some (ob 10 [.ref (md 1), .ref (md 2), .ref (md 3), .ref (md 4), .ref (md 5), .ref (md 6), .int v6, .ref (md 7), .ref (md 8), .int v9, .ref (md 9), .int v11, .int v12, .int v13, .ref (md 10), .int (nI 0), .ref (md 11), .ref (md 12), .ref (md 13), .ref (md 14), .ref (md 15), .ref (md 16), .int (nI 52)]) := hS.1
        have h10 : M23 (md 10) = some (ia G 256 fb) := hS.2.1
        have h11 : M23 (md 11) = some (ia G 32 db) := hS.2.2.1
        have h16 : M23 (md 16) = some (ia G 64 pb) := h16
        have hF := hF.tr ff (mm_ic 0 rfl (mm_ic 1 rfl (mm_ic 2 rfl (mm_ic 3 rfl (mm_ic 4 rfl (mm_ic 5 rfl (mm_ic 7 rfl mm_i0)))))))
        rw [hst] at hq
        rcases hq with ⟨eb, hq⟩ | ⟨eb, hq⟩ <;> subst eb
        · skip
          refine lv_if_ne (tgt := 25) hx hb dX9_check_20 (by decide) (fun _ => ?_) (fun z => by first | exact absurd z (by decide) | exact absurd (by decide) z)
          refine lv_iinc (v := (nI (c + 1))) (lv' := [(3, .int (nI (c + 1))), (0, .ref (md 0)), (1, .int (nI cc)), (2, .int (nI jj))]) hx hb dX9_check_25 hl (k := 3) rfl (by rw [show Int32.ofInt 1 = nI 1 from by decide]; exact nI_add _ _) (by decide) rfl (fun ls hl => ?_)
          refine lv_goto (tgt := 9) hx hb dX9_check_28 (by decide) ?_
          exact ih (c + 1) _ _ _ _ _ H locs ls (by omega) (by omega) hS h3 h4 h5 h6 h7 h15 h16 (lt_s kA hq) hF hR (lv_sub hl [1, 2, 3, 0] rfl)
        · skip
          refine lv_if_ne (tgt := 25) hx hb dX9_check_20 (by decide) (fun z => by first | exact absurd z (by decide) | exact absurd (by decide) z) (fun _ => ?_)
          refine lv_iconst (v := nI 1) hx hb dX9_check_23 (by decide) ?_
          exact mm_iret S hr hlocks hR (by rw [← est]; exact ⟨1, by decide, rfl, Or.inl ⟨rfl, fun z => hq (z c (by omega))⟩, ⟨_, _, _, _, _, hS, h15, h16, hF⟩⟩) dX9_check_24
  exact loopA (4 + 1) 0 _ _ _ _ _ _ _ ls (by omega) (by omega) hS h3 h4 h5 h6 h7 h15 h16 (fun j hj => absurd hj (Nat.not_lt_zero j)) hF hR (lv_sub hl [2, 3, 1, 0] rfl)
