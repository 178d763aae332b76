set_option maxHeartbeats 4000000 in
set_option maxRecDepth 100000 in
/-- right(v, n) -/
theorem c_X9_right (l : Launch) (G : mm_G) (M : mm_M) (sz : Nat) (x : Int32) (n : Nat)  (h1 : 1 ≤ n) (h2 : n < 32) : mm_i l yX9_right wsX9_right ({ frames := 0, cells := 0, slots := 0, locals := 0 } : Room) G ([.int x, .int (nI n)] : List Value) M sz (fun r M' => r = rr x n ∧ M = M') := by
  refine mm_enter (cc := cX9_right) (maxL := 2) (ret := (some .int)) _ (by decide) rfl (Nat.le_of_ble_eq_true rfl) ?_
  intro p0 e0 s m0 be0 me0 c0 ls S hr hlocks hname hA hC hR hl
  have hx := S.1
  have hb := S.2.1
  have hl : lv_has ls 2 [(0, .int x), (1, .int (nI n))] := hl
  have hF : mm_fr [] M M := mm_fr.rf
  refine lv_iload_n hx hb dX9_right_0 rfl (lv_at hl 0 rfl) ?_
  refine lv_iload_n hx hb dX9_right_1 rfl (lv_at hl 1 rfl) ?_
  refine lv_iushr hx hb dX9_right_2 rfl ?_
  refine lv_iload_n hx hb dX9_right_3 rfl (lv_at hl 0 rfl) ?_
  refine lv_bipush (v := nI 32) hx hb dX9_right_4 (by decide) ?_
  refine lv_iload_n hx hb dX9_right_6 rfl (lv_at hl 1 rfl) ?_
  refine lv_isub hx hb dX9_right_7 ?_
  refine mm_eqi (pk_sub (by omega)) ?_
  refine lv_ishl hx hb dX9_right_8 ?_
  refine lv_ior hx hb dX9_right_9 ?_
  exact mm_iret S hr hlocks hR ⟨rfl, rfl⟩ dX9_right_10

set_option maxHeartbeats 4000000 in
set_option maxRecDepth 100000 in
/-- add(b) -/
theorem c_X9_add (l : Launch) (G : mm_G) (M : mm_M) (sz : Nat) (md : Nat → Nat) (v6 v9 v11 v12 v13 v22 : Int32) (nz : Nat) (f d : Nat → Int32) (b : Int32)  (hJ : yI md) (hS : yS G M md v6 v9 v11 v12 v13 v22 nz f d) (hn : nz < 256) : mm_v l yX9_add wsX9_add ({ frames := 0, cells := 0, slots := 0, locals := 0 } : Room) G ([.ref (md 0), .int b] : List Value) M sz (fun M' => yS G M' md v6 v9 v11 v12 v13 v22 (nz + 1) (upd f nz (b &&& nI 255)) d ∧ mm_fr [md 0, md 10, md 11, md 13, md 14] M M') := by
  refine mm_enter (cc := cX9_add) (maxL := 2) (ret := none) _ (by decide) rfl (Nat.le_of_ble_eq_true rfl) ?_
  intro p0 e0 s m0 be0 me0 c0 ls S hr hlocks hname hA hC hR hl
  have hx := S.1
  have hb := S.2.1
  have hl : lv_has ls 2 [(0, .ref (md 0)), (1, .int b)] := hl
  have inRX9 : ∀ w ∈ wsX90, w ∈ wsX9_add := by decide +kernel
  have hF : mm_fr [md 0, md 10, md 11, md 13, md 14] M M := mm_fr.rf
  obtain ⟨h0, h10, h11, ⟨kk, h1, hK⟩, ⟨bb, h2, hB⟩, ⟨i12, h12⟩, ⟨g13, h13⟩, ⟨t14, h14⟩⟩ := hS
  refine lv_aload_n hx hb dX9_add_0 rfl (lv_at hl 0 rfl) ?_
  refine mm_get S hC hR (C := RX9) (T := TX9) (N := 23) (ref := "ForkWatchModel") (v := .ref (md 10)) 14 h0 inRX9 rfl (by decide) (by decide +kernel) (fun _ h9 => h9) rfl dX9_add_1 ?_
  refine lv_aload_n hx hb dX9_add_4 rfl (lv_at hl 0 rfl) ?_
  refine mm_get S hC hR (C := RX9) (T := TX9) (N := 23) (ref := "ForkWatchModel") (v := .int (nI nz)) 15 h0 inRX9 rfl (by decide) (by decide +kernel) (fun _ h9 => h9) rfl dX9_add_5 ?_
  refine lv_iload_n hx hb dX9_add_8 rfl (lv_at hl 1 rfl) ?_
  refine lv_sipush (v := nI 255) hx hb dX9_add_9 (by decide) ?_
  refine lv_iand hx hb dX9_add_12 ?_
  refine mm_iast S hC hR h10 (j := nz) (by omega) (by omega) dX9_add_13 (fun H locs M1 g3 f2 hR => ?_)
  have h0 := f2.at h0 (mm_nc (yne hJ (by decide) (by decide) (by decide)) mm_n0)
  have h11 := f2.at h11 (mm_nc (yne hJ (by decide) (by decide) (by decide)) mm_n0)
  have h1 := f2.at h1 (mm_nc (yne hJ (by decide) (by decide) (by decide)) mm_n0)
  have h2 := f2.at h2 (mm_nc (yne hJ (by decide) (by decide) (by decide)) mm_n0)
  have h12 := f2.at h12 (mm_nc (yne hJ (by decide) (by decide) (by decide)) mm_n0)
  have h13 := f2.at h13 (mm_nc (yne hJ (by decide) (by decide) (by decide)) mm_n0)
  have h14 := f2.at h14 (mm_nc (yne hJ (by decide) (by decide) (by decide)) mm_n0)
  have h10 : M1 (md 10) = some (ia G 256 (upd f nz (b &&& (nI 255)))) := g3
  have hF := hF.tr f2 (mm_ic 1 rfl mm_i0)
  refine lv_aload_n hx hb dX9_add_14 rfl (lv_at hl 0 rfl) ?_
  refine lv_dup hx hb dX9_add_15 rfl ?_
  refine mm_get S hC hR (C := RX9) (T := TX9) (N := 23) (ref := "ForkWatchModel") (v := .int (nI nz)) 15 h0 inRX9 rfl (by decide) (by decide +kernel) (fun _ h9 => h9) rfl dX9_add_16 ?_
  refine lv_iconst (v := nI 1) hx hb dX9_add_19 (by decide) ?_
  refine lv_iadd hx hb dX9_add_20 ?_
  refine mm_eqi (nI_add _ _) ?_
  refine mm_put S hC hR (C := RX9) (T := TX9) (N := 23) (ref := "ForkWatchModel") 15 h0 inRX9 rfl tyX9_ok nmX9 (by decide) (by decide +kernel) (fun _ h9 => h9) rfl rfl rfl (Nat.le_of_ble_eq_true rfl) dX9_add_21 (fun H locs M4 g6 f5 hR => ?_)
  have h10 := f5.at h10 (mm_nc (yne hJ (by decide) (by decide) (by decide)) mm_n0)
  have h11 := f5.at h11 (mm_nc (yne hJ (by decide) (by decide) (by decide)) mm_n0)
  have h1 := f5.at h1 (mm_nc (yne hJ (by decide) (by decide) (by decide)) mm_n0)
  have h2 := f5.at h2 (mm_nc (yne hJ (by decide) (by decide) (by decide)) mm_n0)
  have h12 := f5.at h12 (mm_nc (yne hJ (by decide) (by decide) (by decide)) mm_n0)
  have h13 := f5.at h13 (mm_nc (yne hJ (by decide) (by decide) (by decide)) mm_n0)
  have h14 := f5.at h14 (mm_nc (yne hJ (by decide) (by decide) (by decide)) mm_n0)
  have h0 : M4 (md 0) = some (ob 10 [.ref (md 1), .ref (md 2), .ref (md 3), .ref (md 4), .ref (md 5), .ref (md 6), .int v6, .ref (md 7), .ref (md 8), .int v9, .ref (md 9), .int v11, .int v12, .int v13, .ref (md 10), .int (nI (nz + 1)), .ref (md 11), .ref (md 12), .ref (md 13), .ref (md 14), .ref (md 15), .ref (md 16), .int v22]) := g6
  have hF := hF.tr f5 (mm_ic 0 rfl mm_i0)
  exact mm_vret S hr hlocks hR ⟨⟨h0, h10, h11, ⟨_, h1, hK⟩, ⟨_, h2, hB⟩, ⟨_, h12⟩, ⟨_, h13⟩, ⟨_, h14⟩⟩, hF⟩ dX9_add_24

set_option maxHeartbeats 4000000 in
set_option maxRecDepth 100000 in
/-- mix(from) -/
theorem c_X9_mix (l : Launch) (G : mm_G) (M : mm_M) (sz : Nat) (md : Nat → Nat) (v6 v9 v11 v12 v13 v22 : Int32) (nz : Nat) (f : Nat → Int32) (kk g tt : Nat → Int32) (o : Nat) (h0 : M (md 0) = some (ob 10 [.ref (md 1), .ref (md 2), .ref (md 3), .ref (md 4), .ref (md 5), .ref (md 6), .int v6, .ref (md 7), .ref (md 8), .int v9, .ref (md 9), .int v11, .int v12, .int v13, .ref (md 10), .int (nI nz), .ref (md 11), .ref (md 12), .ref (md 13), .ref (md 14), .ref (md 15), .ref (md 16), .int v22])) (h10 : M (md 10) = some (ia G 256 f)) (h1 : M (md 1) = some (ia G 64 kk)) (h13 : M (md 13) = some (ia G 64 g)) (h14 : M (md 14) = some (ia G 8 tt)) (hJ : yI md) (hK : ∀ j, j < 64 → kk j = k_round j) (ho : o + 64 ≤ 256) : mm_v l yX9_mix wsX9_mix ({ frames := 1, cells := 0, slots := 0, locals := 60 } : Room) G ([.ref (md 0), .int (nI o)] : List Value) M sz (fun M' => ∃ s' g', M' (md 14) = some (ia G 8 s') ∧ (∀ j, j < 8 → s' j = mx tt (sp (blkw f o)) j) ∧ M' (md 13) = some (ia G 64 g') ∧ mm_fr [md 13, md 14] M M') := by
  refine mm_enter (cc := cX9_mix) (maxL := 13) (ret := none) _ (by decide) rfl (Nat.le_of_ble_eq_true rfl) ?_
  intro p0 e0 s m0 be0 me0 c0 ls S hr hlocks hname hA hC hR hl
  have hx := S.1
  have hb := S.2.1
  have hl : lv_has ls 13 [(0, .ref (md 0)), (1, .int (nI o))] := hl
  have inRX9 : ∀ w ∈ wsX90, w ∈ wsX9_mix := by decide +kernel
  have hF : mm_fr [md 13, md 14] M M := mm_fr.rf
  refine lv_iconst (v := nI 0) hx hb dX9_mix_0 (by decide) ?_
  refine lv_istore_n (lv' := [(2, .int (nI 0)), (0, .ref (md 0)), (1, .int (nI o))]) hx hb dX9_mix_1 rfl hl (by decide) rfl (fun ls hl => ?_)
  have loopA : ∀ (n : Nat) (i : Nat)  (M1 : mm_M) (H : Heap) (locs : List Loc) (ls : Array Slot), (16 < i + n) → (i ≤ 16) → (M1 (md 0) = some (ob 10 [.ref (md 1), .ref (md 2), .ref (md 3), .ref (md 4), .ref (md 5), .ref (md 6), .int v6, .ref (md 7), .ref (md 8), .int v9, .ref (md 9), .int v11, .int v12, .int v13, .ref (md 10), .int (nI nz), .ref (md 11), .ref (md 12), .ref (md 13), .ref (md 14), .ref (md 15), .ref (md 16), .int v22])) → (M1 (md 10) = some (ia G 256 f)) → (M1 (md 1) = some (ia G 64 kk)) → (M1 (md 14) = some (ia G 8 tt)) → (M1 (md 13) = some (ia G 64 (wfill f o g i))) → (mm_fr [md 13, md 14] M M1) → mm_R G s (mm_A M sz) M1 H locs → lv_has ls 13 [(0, .ref (md 0)), (1, .int (nI o)), (2, .int (nI i))] → W p0 l e0 ({ frames := 1, cells := 0, slots := 0, locals := 60 } : Room) s m0 ([.ref (md 0), .int (nI o)] : List Value).toArray be0 me0 c0 H locs 0 0 (MQ be0 (va_Qv (fun M' => ∃ s' g', M' (md 14) = some (ia G 8 s') ∧ (∀ j, j < 8 → s' j = mx tt (sp (blkw f o)) j) ∧ M' (md 13) = some (ia G 64 g') ∧ mm_fr [md 13, md 14] M M') (fun M' t => mm_H G (mm_A M sz) M' t.heap) (mm_A M sz)) ([.ref (md 0), .int (nI o)] : List Value).toArray s 0 0 (mm_A M sz)) (F0 m0 2 ls []) := by
    intro n
    induction n with
    | zero =>
      intro i  M1 H locs ls hn hi h0 h10 h1 h14 h13 hF hR hl
      omega
    | succ n ih =>
      intro i  M1 H locs ls hn hi h0 h10 h1 h14 h13 hF hR hl
      refine lv_iload_n hx hb dX9_mix_2 rfl (lv_at hl 2 rfl) ?_
      refine lv_bipush (v := nI 16) hx hb dX9_mix_3 (by decide) ?_
      refine lv_icmp_ge (tgt := 68) hx hb dX9_mix_5 (by decide) (fun c7 => ?_) (fun c7 => ?_)
      · have c7 : 16 ≤ i := (nI_leI (a := 16) (b := i) (by omega) (by omega)).mp c7
        have e4 : 16 = i := by omega
        subst e4
        obtain ⟨w1, ew1⟩ : ∃ z : Nat → Int32, z = wfill f o g 16 := ⟨_, rfl⟩
        rw [← ew1] at h13
        refine lv_bipush (v := nI 16) hx hb dX9_mix_68 (by decide) ?_
        refine lv_istore_n (lv' := [(2, .int (nI 16)), (0, .ref (md 0)), (1, .int (nI o))]) hx hb dX9_mix_70 rfl hl (by decide) rfl (fun ls hl => ?_)
        have loopB : ∀ (n : Nat) (i : Nat)  (M1 : mm_M) (H : Heap) (locs : List Loc) (ls : Array Slot), (48 < i + n) → (i ≤ 48) → (M1 (md 0) = some (ob 10 [.ref (md 1), .ref (md 2), .ref (md 3), .ref (md 4), .ref (md 5), .ref (md 6), .int v6, .ref (md 7), .ref (md 8), .int v9, .ref (md 9), .int v11, .int v12, .int v13, .ref (md 10), .int (nI nz), .ref (md 11), .ref (md 12), .ref (md 13), .ref (md 14), .ref (md 15), .ref (md 16), .int v22])) → (M1 (md 10) = some (ia G 256 f)) → (M1 (md 1) = some (ia G 64 kk)) → (M1 (md 14) = some (ia G 8 tt)) → (M1 (md 13) = some (ia G 64 (sp_go w1 i))) → (mm_fr [md 13, md 14] M M1) → mm_R G s (mm_A M sz) M1 H locs → lv_has ls 13 [(0, .ref (md 0)), (1, .int (nI o)), (2, .int (nI (16 + i)))] → W p0 l e0 ({ frames := 1, cells := 0, slots := 0, locals := 60 } : Room) s m0 ([.ref (md 0), .int (nI o)] : List Value).toArray be0 me0 c0 H locs 0 0 (MQ be0 (va_Qv (fun M' => ∃ s' g', M' (md 14) = some (ia G 8 s') ∧ (∀ j, j < 8 → s' j = mx tt (sp (blkw f o)) j) ∧ M' (md 13) = some (ia G 64 g') ∧ mm_fr [md 13, md 14] M M') (fun M' t => mm_H G (mm_A M sz) M' t.heap) (mm_A M sz)) ([.ref (md 0), .int (nI o)] : List Value).toArray s 0 0 (mm_A M sz)) (F0 m0 71 ls []) := by
          intro n
          induction n with
          | zero =>
            intro i  M1 H locs ls hn hi h0 h10 h1 h14 h13 hF hR hl
            omega
          | succ n ih =>
            intro i  M1 H locs ls hn hi h0 h10 h1 h14 h13 hF hR hl
            refine lv_iload_n hx hb dX9_mix_71 rfl (lv_at hl 2 rfl) ?_
            refine lv_bipush (v := nI 64) hx hb dX9_mix_72 (by decide) ?_
            refine lv_icmp_ge (tgt := 168) hx hb dX9_mix_74 (by decide) (fun c11 => ?_) (fun c11 => ?_)
            · have c11 : 64 ≤ 16 + i := (nI_leI (a := 64) (b := 16 + i) (by omega) (by omega)).mp c11
              have e4 : 48 = i := by omega
              subst e4
              obtain ⟨w2, ew2⟩ : ∃ z : Nat → Int32, z = sp_go w1 48 := ⟨_, rfl⟩
              rw [← ew2] at h13
              refine lv_aload_n hx hb dX9_mix_168 rfl (lv_at hl 0 rfl) ?_
              refine mm_get S hC hR (C := RX9) (T := TX9) (N := 23) (ref := "ForkWatchModel") (v := .ref (md 14)) 19 h0 inRX9 rfl (by decide) (by decide +kernel) (fun _ h9 => h9) rfl dX9_mix_169 ?_
              refine lv_iconst (v := nI 0) hx hb dX9_mix_172 (by decide) ?_
              refine mm_iald S hC hR h14 (j := 0) (by omega) (by omega) dX9_mix_173 ?_
              refine lv_topi (fun x25 ex25 => ?_)
              refine lv_istore_n (lv' := [(2, .int x25), (0, .ref (md 0)), (1, .int (nI o))]) hx hb dX9_mix_174 rfl hl (by decide) rfl (fun ls hl => ?_)
              refine lv_aload_n hx hb dX9_mix_175 rfl (lv_at hl 1 rfl) ?_
              refine mm_get S hC hR (C := RX9) (T := TX9) (N := 23) (ref := "ForkWatchModel") (v := .ref (md 14)) 19 h0 inRX9 rfl (by decide) (by decide +kernel) (fun _ h9 => h9) rfl dX9_mix_176 ?_
              refine lv_iconst (v := nI 1) hx hb dX9_mix_179 (by decide) ?_
              refine mm_iald S hC hR h14 (j := 1) (by omega) (by omega) dX9_mix_180 ?_
              refine lv_topi (fun x26 ex26 => ?_)
              refine lv_istore_n (lv' := [(3, .int x26), (2, .int x25), (0, .ref (md 0)), (1, .int (nI o))]) hx hb dX9_mix_181 rfl hl (by decide) rfl (fun ls hl => ?_)
              refine lv_aload_n hx hb dX9_mix_182 rfl (lv_at hl 2 rfl) ?_
              refine mm_get S hC hR (C := RX9) (T := TX9) (N := 23) (ref := "ForkWatchModel") (v := .ref (md 14)) 19 h0 inRX9 rfl (by decide) (by decide +kernel) (fun _ h9 => h9) rfl dX9_mix_183 ?_
              refine lv_iconst (v := nI 2) hx hb dX9_mix_186 (by decide) ?_
              refine mm_iald S hC hR h14 (j := 2) (by omega) (by omega) dX9_mix_187 ?_
              refine lv_topi (fun x27 ex27 => ?_)
              refine lv_istore (lv' := [(4, .int x27), (3, .int x26), (2, .int x25), (0, .ref (md 0)), (1, .int (nI o))]) hx hb dX9_mix_188 hl (by decide) rfl (fun ls hl => ?_)
              refine lv_aload_n hx hb dX9_mix_190 rfl (lv_at hl 3 rfl) ?_
              refine mm_get S hC hR (C := RX9) (T := TX9) (N := 23) (ref := "ForkWatchModel") (v := .ref (md 14)) 19 h0 inRX9 rfl (by decide) (by decide +kernel) (fun _ h9 => h9) rfl dX9_mix_191 ?_
              refine lv_iconst (v := nI 3) hx hb dX9_mix_194 (by decide) ?_
              refine mm_iald S hC hR h14 (j := 3) (by omega) (by omega) dX9_mix_195 ?_
              refine lv_topi (fun x28 ex28 => ?_)
              refine lv_istore (lv' := [(5, .int x28), (4, .int x27), (3, .int x26), (2, .int x25), (0, .ref (md 0)), (1, .int (nI o))]) hx hb dX9_mix_196 hl (by decide) rfl (fun ls hl => ?_)
              refine lv_aload_n hx hb dX9_mix_198 rfl (lv_at hl 4 rfl) ?_
              refine mm_get S hC hR (C := RX9) (T := TX9) (N := 23) (ref := "ForkWatchModel") (v := .ref (md 14)) 19 h0 inRX9 rfl (by decide) (by decide +kernel) (fun _ h9 => h9) rfl dX9_mix_199 ?_
              refine lv_iconst (v := nI 4) hx hb dX9_mix_202 (by decide) ?_
              refine mm_iald S hC hR h14 (j := 4) (by omega) (by omega) dX9_mix_203 ?_
              refine lv_topi (fun x29 ex29 => ?_)
              refine lv_istore (lv' := [(6, .int x29), (5, .int x28), (4, .int x27), (3, .int x26), (2, .int x25), (0, .ref (md 0)), (1, .int (nI o))]) hx hb dX9_mix_204 hl (by decide) rfl (fun ls hl => ?_)
              refine lv_aload_n hx hb dX9_mix_206 rfl (lv_at hl 5 rfl) ?_
              refine mm_get S hC hR (C := RX9) (T := TX9) (N := 23) (ref := "ForkWatchModel") (v := .ref (md 14)) 19 h0 inRX9 rfl (by decide) (by decide +kernel) (fun _ h9 => h9) rfl dX9_mix_207 ?_
              refine lv_iconst (v := nI 5) hx hb dX9_mix_210 (by decide) ?_
              refine mm_iald S hC hR h14 (j := 5) (by omega) (by omega) dX9_mix_211 ?_
              refine lv_topi (fun x30 ex30 => ?_)
              refine lv_istore (lv' := [(7, .int x30), (6, .int x29), (5, .int x28), (4, .int x27), (3, .int x26), (2, .int x25), (0, .ref (md 0)), (1, .int (nI o))]) hx hb dX9_mix_212 hl (by decide) rfl (fun ls hl => ?_)
              refine lv_aload_n hx hb dX9_mix_214 rfl (lv_at hl 6 rfl) ?_
              refine mm_get S hC hR (C := RX9) (T := TX9) (N := 23) (ref := "ForkWatchModel") (v := .ref (md 14)) 19 h0 inRX9 rfl (by decide) (by decide +kernel) (fun _ h9 => h9) rfl dX9_mix_215 ?_
              refine lv_bipush (v := nI 6) hx hb dX9_mix_218 (by decide) ?_
              refine mm_iald S hC hR h14 (j := 6) (by omega) (by omega) dX9_mix_220 ?_
              refine lv_topi (fun x31 ex31 => ?_)
              refine lv_istore (lv' := [(8, .int x31), (7, .int x30), (6, .int x29), (5, .int x28), (4, .int x27), (3, .int x26), (2, .int x25), (0, .ref (md 0)), (1, .int (nI o))]) hx hb dX9_mix_221 hl (by decide) rfl (fun ls hl => ?_)
              refine lv_aload_n hx hb dX9_mix_223 rfl (lv_at hl 7 rfl) ?_
              refine mm_get S hC hR (C := RX9) (T := TX9) (N := 23) (ref := "ForkWatchModel") (v := .ref (md 14)) 19 h0 inRX9 rfl (by decide) (by decide +kernel) (fun _ h9 => h9) rfl dX9_mix_224 ?_
              refine lv_bipush (v := nI 7) hx hb dX9_mix_227 (by decide) ?_
              refine mm_iald S hC hR h14 (j := 7) (by omega) (by omega) dX9_mix_229 ?_
              refine lv_topi (fun x32 ex32 => ?_)
              refine lv_istore (lv' := [(9, .int x32), (8, .int x31), (7, .int x30), (6, .int x29), (5, .int x28), (4, .int x27), (3, .int x26), (2, .int x25), (0, .ref (md 0)), (1, .int (nI o))]) hx hb dX9_mix_230 hl (by decide) rfl (fun ls hl => ?_)
              refine lv_iconst (v := nI 0) hx hb dX9_mix_232 (by decide) ?_
              refine lv_istore (lv' := [(10, .int (nI 0)), (9, .int x32), (8, .int x31), (7, .int x30), (6, .int x29), (5, .int x28), (4, .int x27), (3, .int x26), (2, .int x25), (0, .ref (md 0)), (1, .int (nI o))]) hx hb dX9_mix_233 hl (by decide) rfl (fun ls hl => ?_)
              have loopC : ∀ (n : Nat) (i : Nat) (ra rb rc rd re rf rg rh : Int32) (M1 : mm_M) (H : Heap) (locs : List Loc) (ls : Array Slot), (64 < i + n) → (i ≤ 64) → (M1 (md 0) = some (ob 10 [.ref (md 1), .ref (md 2), .ref (md 3), .ref (md 4), .ref (md 5), .ref (md 6), .int v6, .ref (md 7), .ref (md 8), .int v9, .ref (md 9), .int v11, .int v12, .int v13, .ref (md 10), .int (nI nz), .ref (md 11), .ref (md 12), .ref (md 13), .ref (md 14), .ref (md 15), .ref (md 16), .int v22])) → (M1 (md 10) = some (ia G 256 f)) → (M1 (md 1) = some (ia G 64 kk)) → (M1 (md 14) = some (ia G 8 tt)) → (M1 (md 13) = some (ia G 64 w2)) → (ra = mx_go tt w2 i 0) → (rb = mx_go tt w2 i 1) → (rc = mx_go tt w2 i 2) → (rd = mx_go tt w2 i 3) → (re = mx_go tt w2 i 4) → (rf = mx_go tt w2 i 5) → (rg = mx_go tt w2 i 6) → (rh = mx_go tt w2 i 7) → (mm_fr [md 13, md 14] M M1) → mm_R G s (mm_A M sz) M1 H locs → lv_has ls 13 [(0, .ref (md 0)), (1, .int (nI o)), (2, .int ra), (3, .int rb), (4, .int rc), (5, .int rd), (6, .int re), (7, .int rf), (8, .int rg), (9, .int rh), (10, .int (nI i))] → W p0 l e0 ({ frames := 1, cells := 0, slots := 0, locals := 60 } : Room) s m0 ([.ref (md 0), .int (nI o)] : List Value).toArray be0 me0 c0 H locs 0 0 (MQ be0 (va_Qv (fun M' => ∃ s' g', M' (md 14) = some (ia G 8 s') ∧ (∀ j, j < 8 → s' j = mx tt (sp (blkw f o)) j) ∧ M' (md 13) = some (ia G 64 g') ∧ mm_fr [md 13, md 14] M M') (fun M' t => mm_H G (mm_A M sz) M' t.heap) (mm_A M sz)) ([.ref (md 0), .int (nI o)] : List Value).toArray s 0 0 (mm_A M sz)) (F0 m0 235 ls []) := by
                intro n
                induction n with
                | zero =>
                  intro i ra rb rc rd re rf rg rh M1 H locs ls hn hi h0 h10 h1 h14 h13 Era Erb Erc Erd Ere Erf Erg Erh hF hR hl
                  omega
                | succ n ih =>
                  intro i ra rb rc rd re rf rg rh M1 H locs ls hn hi h0 h10 h1 h14 h13 Era Erb Erc Erd Ere Erf Erg Erh hF hR hl
                  refine lv_iload hx hb dX9_mix_235 (lv_at hl 10 rfl) ?_
                  refine lv_bipush (v := nI 64) hx hb dX9_mix_237 (by decide) ?_
                  refine lv_icmp_ge (tgt := 375) hx hb dX9_mix_239 (by decide) (fun c33 => ?_) (fun c33 => ?_)
                  · have c33 : 64 ≤ i := (nI_leI (a := 64) (b := i) (by omega) (by omega)).mp c33
                    have e4 : 64 = i := by omega
                    subst e4
                    refine lv_aload_n hx hb dX9_mix_375 rfl (lv_at hl 0 rfl) ?_
                    refine mm_get S hC hR (C := RX9) (T := TX9) (N := 23) (ref := "ForkWatchModel") (v := .ref (md 14)) 19 h0 inRX9 rfl (by decide) (by decide +kernel) (fun _ h9 => h9) rfl dX9_mix_376 ?_
                    refine lv_iconst (v := nI 0) hx hb dX9_mix_379 (by decide) ?_
                    refine lv_dup2_11 hx hb dX9_mix_380 rfl rfl ?_
                    refine mm_iald S hC hR h14 (j := 0) (by omega) (by omega) dX9_mix_381 ?_
                    refine lv_iload_n hx hb dX9_mix_382 rfl (lv_at hl 2 rfl) ?_
                    refine lv_iadd hx hb dX9_mix_383 ?_
                    refine mm_iast S hC hR h14 (j := 0) (by omega) (by omega) dX9_mix_384 (fun H locs M34 g36 f35 hR => ?_)
                    have h0 := f35.at h0 (mm_nc (yne hJ (by decide) (by decide) (by decide)) mm_n0)
                    have h10 := f35.at h10 (mm_nc (yne hJ (by decide) (by decide) (by decide)) mm_n0)
                    have h1 := f35.at h1 (mm_nc (yne hJ (by decide) (by decide) (by decide)) mm_n0)
                    have h13 := f35.at h13 (mm_nc (yne hJ (by decide) (by decide) (by decide)) mm_n0)
                    have h14 : M34 (md 14) = some (ia G 8 (upd tt 0 ((tt 0) + ra))) := g36
                    have hF := hF.tr f35 (mm_ic 1 rfl mm_i0)
                    obtain ⟨fn37, efn37⟩ : ∃ z : Nat → Int32, z = upd tt 0 ((tt 0) + ra) := ⟨_, rfl⟩
                    rw [← efn37] at h14
                    refine lv_aload_n hx hb dX9_mix_385 rfl (lv_at hl 0 rfl) ?_
                    refine mm_get S hC hR (C := RX9) (T := TX9) (N := 23) (ref := "ForkWatchModel") (v := .ref (md 14)) 19 h0 inRX9 rfl (by decide) (by decide +kernel) (fun _ h9 => h9) rfl dX9_mix_386 ?_
                    refine lv_iconst (v := nI 1) hx hb dX9_mix_389 (by decide) ?_
                    refine lv_dup2_11 hx hb dX9_mix_390 rfl rfl ?_
                    refine mm_iald S hC hR h14 (j := 1) (by omega) (by omega) dX9_mix_391 ?_
                    refine lv_iload_n hx hb dX9_mix_392 rfl (lv_at hl 3 rfl) ?_
                    refine lv_iadd hx hb dX9_mix_393 ?_
                    refine mm_iast S hC hR h14 (j := 1) (by omega) (by omega) dX9_mix_394 (fun H locs M38 g40 f39 hR => ?_)
                    have h0 := f39.at h0 (mm_nc (yne hJ (by decide) (by decide) (by decide)) mm_n0)
                    have h10 := f39.at h10 (mm_nc (yne hJ (by decide) (by decide) (by decide)) mm_n0)
                    have h1 := f39.at h1 (mm_nc (yne hJ (by decide) (by decide) (by decide)) mm_n0)
                    have h13 := f39.at h13 (mm_nc (yne hJ (by decide) (by decide) (by decide)) mm_n0)
                    have h14 : M38 (md 14) = some (ia G 8 (upd fn37 1 ((fn37 1) + rb))) := g40
                    have hF := hF.tr f39 (mm_ic 1 rfl mm_i0)
                    obtain ⟨fn41, efn41⟩ : ∃ z : Nat → Int32, z = upd fn37 1 ((fn37 1) + rb) := ⟨_, rfl⟩
                    rw [← efn41] at h14
                    refine lv_aload_n hx hb dX9_mix_395 rfl (lv_at hl 0 rfl) ?_
                    refine mm_get S hC hR (C := RX9) (T := TX9) (N := 23) (ref := "ForkWatchModel") (v := .ref (md 14)) 19 h0 inRX9 rfl (by decide) (by decide +kernel) (fun _ h9 => h9) rfl dX9_mix_396 ?_
                    refine lv_iconst (v := nI 2) hx hb dX9_mix_399 (by decide) ?_
                    refine lv_dup2_11 hx hb dX9_mix_400 rfl rfl ?_
                    refine mm_iald S hC hR h14 (j := 2) (by omega) (by omega) dX9_mix_401 ?_
                    refine lv_iload hx hb dX9_mix_402 (lv_at hl 4 rfl) ?_
                    refine lv_iadd hx hb dX9_mix_404 ?_
                    refine mm_iast S hC hR h14 (j := 2) (by omega) (by omega) dX9_mix_405 (fun H locs M42 g44 f43 hR => ?_)
                    have h0 := f43.at h0 (mm_nc (yne hJ (by decide) (by decide) (by decide)) mm_n0)
                    have h10 := f43.at h10 (mm_nc (yne hJ (by decide) (by decide) (by decide)) mm_n0)
                    have h1 := f43.at h1 (mm_nc (yne hJ (by decide) (by decide) (by decide)) mm_n0)
                    have h13 := f43.at h13 (mm_nc (yne hJ (by decide) (by decide) (by decide)) mm_n0)
                    have h14 : M42 (md 14) = some (ia G 8 (upd fn41 2 ((fn41 2) + rc))) := g44
                    have hF := hF.tr f43 (mm_ic 1 rfl mm_i0)
                    obtain ⟨fn45, efn45⟩ : ∃ z : Nat → Int32, z = upd fn41 2 ((fn41 2) + rc) := ⟨_, rfl⟩
                    rw [← efn45] at h14
                    refine lv_aload_n hx hb dX9_mix_406 rfl (lv_at hl 0 rfl) ?_
                    refine mm_get S hC hR (C := RX9) (T := TX9) (N := 23) (ref := "ForkWatchModel") (v := .ref (md 14)) 19 h0 inRX9 rfl (by decide) (by decide +kernel) (fun _ h9 => h9) rfl dX9_mix_407 ?_
                    refine lv_iconst (v := nI 3) hx hb dX9_mix_410 (by decide) ?_
                    refine lv_dup2_11 hx hb dX9_mix_411 rfl rfl ?_
                    refine mm_iald S hC hR h14 (j := 3) (by omega) (by omega) dX9_mix_412 ?_
                    refine lv_iload hx hb dX9_mix_413 (lv_at hl 5 rfl) ?_
                    refine lv_iadd hx hb dX9_mix_415 ?_
                    refine mm_iast S hC hR h14 (j := 3) (by omega) (by omega) dX9_mix_416 (fun H locs M46 g48 f47 hR => ?_)
                    have h0 := f47.at h0 (mm_nc (yne hJ (by decide) (by decide) (by decide)) mm_n0)
                    have h10 := f47.at h10 (mm_nc (yne hJ (by decide) (by decide) (by decide)) mm_n0)
                    have h1 := f47.at h1 (mm_nc (yne hJ (by decide) (by decide) (by decide)) mm_n0)
                    have h13 := f47.at h13 (mm_nc (yne hJ (by decide) (by decide) (by decide)) mm_n0)
                    have h14 : M46 (md 14) = some (ia G 8 (upd fn45 3 ((fn45 3) + rd))) := g48
                    have hF := hF.tr f47 (mm_ic 1 rfl mm_i0)
                    obtain ⟨fn49, efn49⟩ : ∃ z : Nat → Int32, z = upd fn45 3 ((fn45 3) + rd) := ⟨_, rfl⟩
                    rw [← efn49] at h14
                    refine lv_aload_n hx hb dX9_mix_417 rfl (lv_at hl 0 rfl) ?_
                    refine mm_get S hC hR (C := RX9) (T := TX9) (N := 23) (ref := "ForkWatchModel") (v := .ref (md 14)) 19 h0 inRX9 rfl (by decide) (by decide +kernel) (fun _ h9 => h9) rfl dX9_mix_418 ?_
                    refine lv_iconst (v := nI 4) hx hb dX9_mix_421 (by decide) ?_
                    refine lv_dup2_11 hx hb dX9_mix_422 rfl rfl ?_
                    refine mm_iald S hC hR h14 (j := 4) (by omega) (by omega) dX9_mix_423 ?_
                    refine lv_iload hx hb dX9_mix_424 (lv_at hl 6 rfl) ?_
                    refine lv_iadd hx hb dX9_mix_426 ?_
                    refine mm_iast S hC hR h14 (j := 4) (by omega) (by omega) dX9_mix_427 (fun H locs M50 g52 f51 hR => ?_)
                    have h0 := f51.at h0 (mm_nc (yne hJ (by decide) (by decide) (by decide)) mm_n0)
                    have h10 := f51.at h10 (mm_nc (yne hJ (by decide) (by decide) (by decide)) mm_n0)
                    have h1 := f51.at h1 (mm_nc (yne hJ (by decide) (by decide) (by decide)) mm_n0)
                    have h13 := f51.at h13 (mm_nc (yne hJ (by decide) (by decide) (by decide)) mm_n0)
                    have h14 : M50 (md 14) = some (ia G 8 (upd fn49 4 ((fn49 4) + re))) := g52
                    have hF := hF.tr f51 (mm_ic 1 rfl mm_i0)
                    obtain ⟨fn53, efn53⟩ : ∃ z : Nat → Int32, z = upd fn49 4 ((fn49 4) + re) := ⟨_, rfl⟩
                    rw [← efn53] at h14
                    refine lv_aload_n hx hb dX9_mix_428 rfl (lv_at hl 0 rfl) ?_
                    refine mm_get S hC hR (C := RX9) (T := TX9) (N := 23) (ref := "ForkWatchModel") (v := .ref (md 14)) 19 h0 inRX9 rfl (by decide) (by decide +kernel) (fun _ h9 => h9) rfl dX9_mix_429 ?_
                    refine lv_iconst (v := nI 5) hx hb dX9_mix_432 (by decide) ?_
                    refine lv_dup2_11 hx hb dX9_mix_433 rfl rfl ?_
                    refine mm_iald S hC hR h14 (j := 5) (by omega) (by omega) dX9_mix_434 ?_
                    refine lv_iload hx hb dX9_mix_435 (lv_at hl 7 rfl) ?_
                    refine lv_iadd hx hb dX9_mix_437 ?_
                    refine mm_iast S hC hR h14 (j := 5) (by omega) (by omega) dX9_mix_438 (fun H locs M54 g56 f55 hR => ?_)
                    have h0 := f55.at h0 (mm_nc (yne hJ (by decide) (by decide) (by decide)) mm_n0)
                    have h10 := f55.at h10 (mm_nc (yne hJ (by decide) (by decide) (by decide)) mm_n0)
                    have h1 := f55.at h1 (mm_nc (yne hJ (by decide) (by decide) (by decide)) mm_n0)
                    have h13 := f55.at h13 (mm_nc (yne hJ (by decide) (by decide) (by decide)) mm_n0)
                    have h14 : M54 (md 14) = some (ia G 8 (upd fn53 5 ((fn53 5) + rf))) := g56
                    have hF := hF.tr f55 (mm_ic 1 rfl mm_i0)
                    obtain ⟨fn57, efn57⟩ : ∃ z : Nat → Int32, z = upd fn53 5 ((fn53 5) + rf) := ⟨_, rfl⟩
                    rw [← efn57] at h14
                    refine lv_aload_n hx hb dX9_mix_439 rfl (lv_at hl 0 rfl) ?_
                    refine mm_get S hC hR (C := RX9) (T := TX9) (N := 23) (ref := "ForkWatchModel") (v := .ref (md 14)) 19 h0 inRX9 rfl (by decide) (by decide +kernel) (fun _ h9 => h9) rfl dX9_mix_440 ?_
                    refine lv_bipush (v := nI 6) hx hb dX9_mix_443 (by decide) ?_
                    refine lv_dup2_11 hx hb dX9_mix_445 rfl rfl ?_
                    refine mm_iald S hC hR h14 (j := 6) (by omega) (by omega) dX9_mix_446 ?_
                    refine lv_iload hx hb dX9_mix_447 (lv_at hl 8 rfl) ?_
                    refine lv_iadd hx hb dX9_mix_449 ?_
                    refine mm_iast S hC hR h14 (j := 6) (by omega) (by omega) dX9_mix_450 (fun H locs M58 g60 f59 hR => ?_)
                    have h0 := f59.at h0 (mm_nc (yne hJ (by decide) (by decide) (by decide)) mm_n0)
                    have h10 := f59.at h10 (mm_nc (yne hJ (by decide) (by decide) (by decide)) mm_n0)
                    have h1 := f59.at h1 (mm_nc (yne hJ (by decide) (by decide) (by decide)) mm_n0)
                    have h13 := f59.at h13 (mm_nc (yne hJ (by decide) (by decide) (by decide)) mm_n0)
                    have h14 : M58 (md 14) = some (ia G 8 (upd fn57 6 ((fn57 6) + rg))) := g60
                    have hF := hF.tr f59 (mm_ic 1 rfl mm_i0)
                    obtain ⟨fn61, efn61⟩ : ∃ z : Nat → Int32, z = upd fn57 6 ((fn57 6) + rg) := ⟨_, rfl⟩
                    rw [← efn61] at h14
                    refine lv_aload_n hx hb dX9_mix_451 rfl (lv_at hl 0 rfl) ?_
                    refine mm_get S hC hR (C := RX9) (T := TX9) (N := 23) (ref := "ForkWatchModel") (v := .ref (md 14)) 19 h0 inRX9 rfl (by decide) (by decide +kernel) (fun _ h9 => h9) rfl dX9_mix_452 ?_
                    refine lv_bipush (v := nI 7) hx hb dX9_mix_455 (by decide) ?_
                    refine lv_dup2_11 hx hb dX9_mix_457 rfl rfl ?_
                    refine mm_iald S hC hR h14 (j := 7) (by omega) (by omega) dX9_mix_458 ?_
                    refine lv_iload hx hb dX9_mix_459 (lv_at hl 9 rfl) ?_
                    refine lv_iadd hx hb dX9_mix_461 ?_
                    refine mm_iast S hC hR h14 (j := 7) (by omega) (by omega) dX9_mix_462 (fun H locs M62 g64 f63 hR => ?_)
                    have h0 := f63.at h0 (mm_nc (yne hJ (by decide) (by decide) (by decide)) mm_n0)
                    have h10 := f63.at h10 (mm_nc (yne hJ (by decide) (by decide) (by decide)) mm_n0)
                    have h1 := f63.at h1 (mm_nc (yne hJ (by decide) (by decide) (by decide)) mm_n0)
                    have h13 := f63.at h13 (mm_nc (yne hJ (by decide) (by decide) (by decide)) mm_n0)
                    have h14 : M62 (md 14) = some (ia G 8 (upd fn61 7 ((fn61 7) + rh))) := g64
                    have hF := hF.tr f63 (mm_ic 1 rfl mm_i0)
                    obtain ⟨fn65, efn65⟩ : ∃ z : Nat → Int32, z = upd fn61 7 ((fn61 7) + rh) := ⟨_, rfl⟩
                    rw [← efn65] at h14
                    have e9 : fn65 = mx tt w2 := by subst efn37 efn41 efn45 efn49 efn53 efn57 efn61 efn65 Era Erb Erc Erd Ere Erf Erg Erh; rfl
                    exact mm_vret S hr hlocks hR ⟨_, _, h14, fun j hj => by rw [e9, ew2, ew1]; exact mx_ag (fun _ _ => rfl) (sp_ag wf_16) j hj, h13, hF⟩ dX9_mix_463
                  · have c33 : ¬ (64 ≤ i) := fun z => c33 ((nI_leI (a := 64) (b := i) (by omega) (by omega)).mpr z)
                    refine lv_iload hx hb dX9_mix_242 (lv_at hl 9 rfl) ?_
                    refine lv_iload hx hb dX9_mix_244 (lv_at hl 6 rfl) ?_
                    refine lv_bipush (v := nI 6) hx hb dX9_mix_246 (by decide) ?_
                    refine mm_calli hA hR (va_runS (As := [.int re, .int (nI 6)]) (rest := [.int rh]) S (c_X9_right l G M1 _ re 6 (by decide) (by decide)) (va_cwS 2 S.2.2.2.2 gX9_mix_X9_right rfl rfl rfl (by decide +kernel) ⟨Nat.le_of_ble_eq_true rfl, Nat.le_of_ble_eq_true rfl⟩) (mm_preS hC hA hR _) rfl rfl hl.1 rfl (lv_room (Nat.le_of_ble_eq_true rfl)) dX9_mix_248 ⟨Nat.le_of_ble_eq_true rfl, Nat.le_of_ble_eq_true rfl⟩) (fun r66 M67 H locs hp hR => ?_)
                    obtain ⟨er, eM⟩ := hp
                    subst eM
                    subst er
                    refine lv_iload hx hb dX9_mix_251 (lv_at hl 6 rfl) ?_
                    refine lv_bipush (v := nI 11) hx hb dX9_mix_253 (by decide) ?_
                    refine mm_calli hA hR (va_runS (As := [.int re, .int (nI 11)]) (rest := [.int (rr re 6), .int rh]) S (c_X9_right l G M1 _ re 11 (by decide) (by decide)) (va_cwS 2 S.2.2.2.2 gX9_mix_X9_right rfl rfl rfl (by decide +kernel) ⟨Nat.le_of_ble_eq_true rfl, Nat.le_of_ble_eq_true rfl⟩) (mm_preS hC hA hR _) rfl rfl hl.1 rfl (lv_room (Nat.le_of_ble_eq_true rfl)) dX9_mix_255 ⟨Nat.le_of_ble_eq_true rfl, Nat.le_of_ble_eq_true rfl⟩) (fun r68 M69 H locs hp hR => ?_)
                    obtain ⟨er, eM⟩ := hp
                    subst eM
                    subst er
                    refine lv_ixor hx hb dX9_mix_258 ?_
                    refine lv_iload hx hb dX9_mix_259 (lv_at hl 6 rfl) ?_
                    refine lv_bipush (v := nI 25) hx hb dX9_mix_261 (by decide) ?_
                    refine mm_calli hA hR (va_runS (As := [.int re, .int (nI 25)]) (rest := [.int ((rr re 6) ^^^ (rr re 11)), .int rh]) S (c_X9_right l G M1 _ re 25 (by decide) (by decide)) (va_cwS 2 S.2.2.2.2 gX9_mix_X9_right rfl rfl rfl (by decide +kernel) ⟨Nat.le_of_ble_eq_true rfl, Nat.le_of_ble_eq_true rfl⟩) (mm_preS hC hA hR _) rfl rfl hl.1 rfl (lv_room (Nat.le_of_ble_eq_true rfl)) dX9_mix_263 ⟨Nat.le_of_ble_eq_true rfl, Nat.le_of_ble_eq_true rfl⟩) (fun r70 M71 H locs hp hR => ?_)
                    obtain ⟨er, eM⟩ := hp
                    subst eM
                    subst er
                    refine lv_ixor hx hb dX9_mix_266 ?_
                    refine lv_iadd hx hb dX9_mix_267 ?_
                    refine lv_iload hx hb dX9_mix_268 (lv_at hl 6 rfl) ?_
                    refine lv_iload hx hb dX9_mix_270 (lv_at hl 7 rfl) ?_
                    refine lv_iand hx hb dX9_mix_272 ?_
                    refine lv_iload hx hb dX9_mix_273 (lv_at hl 6 rfl) ?_
                    refine lv_iconst (v := -1) hx hb dX9_mix_275 (by decide) ?_
                    refine lv_ixor hx hb dX9_mix_276 ?_
                    refine lv_iload hx hb dX9_mix_277 (lv_at hl 8 rfl) ?_
                    refine lv_iand hx hb dX9_mix_279 ?_
                    refine lv_ixor hx hb dX9_mix_280 ?_
                    refine lv_iadd hx hb dX9_mix_281 ?_
                    refine lv_aload_n hx hb dX9_mix_282 rfl (lv_at hl 0 rfl) ?_
                    refine mm_get S hC hR (C := RX9) (T := TX9) (N := 23) (ref := "ForkWatchModel") (v := .ref (md 1)) 0 h0 inRX9 rfl (by decide) (by decide +kernel) (fun _ h9 => h9) rfl dX9_mix_283 ?_
                    refine lv_iload hx hb dX9_mix_286 (lv_at hl 10 rfl) ?_
                    refine mm_iald S hC hR h1 (j := i) (by omega) (by omega) dX9_mix_288 ?_
                    refine lv_iadd hx hb dX9_mix_289 ?_
                    refine lv_aload_n hx hb dX9_mix_290 rfl (lv_at hl 0 rfl) ?_
                    refine mm_get S hC hR (C := RX9) (T := TX9) (N := 23) (ref := "ForkWatchModel") (v := .ref (md 13)) 18 h0 inRX9 rfl (by decide) (by decide +kernel) (fun _ h9 => h9) rfl dX9_mix_291 ?_
                    refine lv_iload hx hb dX9_mix_294 (lv_at hl 10 rfl) ?_
                    refine mm_iald S hC hR h13 (j := i) (by omega) (by omega) dX9_mix_296 ?_
                    refine lv_iadd hx hb dX9_mix_297 ?_
                    refine lv_topi (fun x72 ex72 => ?_)
                    refine lv_istore (lv' := [(11, .int x72), (0, .ref (md 0)), (1, .int (nI o)), (2, .int ra), (3, .int rb), (4, .int rc), (5, .int rd), (6, .int re), (7, .int rf), (8, .int rg), (9, .int rh), (10, .int (nI i))]) hx hb dX9_mix_298 hl (by decide) rfl (fun ls hl => ?_)
                    refine lv_iload_n hx hb dX9_mix_300 rfl (lv_at hl 3 rfl) ?_
                    refine lv_iconst (v := nI 2) hx hb dX9_mix_301 (by decide) ?_
                    refine mm_calli hA hR (va_runS (As := [.int ra, .int (nI 2)]) (rest := []) S (c_X9_right l G M1 _ ra 2 (by decide) (by decide)) (va_cwS 2 S.2.2.2.2 gX9_mix_X9_right rfl rfl rfl (by decide +kernel) ⟨Nat.le_of_ble_eq_true rfl, Nat.le_of_ble_eq_true rfl⟩) (mm_preS hC hA hR _) rfl rfl hl.1 rfl (lv_room (Nat.le_of_ble_eq_true rfl)) dX9_mix_302 ⟨Nat.le_of_ble_eq_true rfl, Nat.le_of_ble_eq_true rfl⟩) (fun r73 M74 H locs hp hR => ?_)
                    obtain ⟨er, eM⟩ := hp
                    subst eM
                    subst er
                    refine lv_iload_n hx hb dX9_mix_305 rfl (lv_at hl 3 rfl) ?_
                    refine lv_bipush (v := nI 13) hx hb dX9_mix_306 (by decide) ?_
                    refine mm_calli hA hR (va_runS (As := [.int ra, .int (nI 13)]) (rest := [.int (rr ra 2)]) S (c_X9_right l G M1 _ ra 13 (by decide) (by decide)) (va_cwS 2 S.2.2.2.2 gX9_mix_X9_right rfl rfl rfl (by decide +kernel) ⟨Nat.le_of_ble_eq_true rfl, Nat.le_of_ble_eq_true rfl⟩) (mm_preS hC hA hR _) rfl rfl hl.1 rfl (lv_room (Nat.le_of_ble_eq_true rfl)) dX9_mix_308 ⟨Nat.le_of_ble_eq_true rfl, Nat.le_of_ble_eq_true rfl⟩) (fun r75 M76 H locs hp hR => ?_)
                    obtain ⟨er, eM⟩ := hp
                    subst eM
                    subst er
                    refine lv_ixor hx hb dX9_mix_311 ?_
                    refine lv_iload_n hx hb dX9_mix_312 rfl (lv_at hl 3 rfl) ?_
                    refine lv_bipush (v := nI 22) hx hb dX9_mix_313 (by decide) ?_
                    refine mm_calli hA hR (va_runS (As := [.int ra, .int (nI 22)]) (rest := [.int ((rr ra 2) ^^^ (rr ra 13))]) S (c_X9_right l G M1 _ ra 22 (by decide) (by decide)) (va_cwS 2 S.2.2.2.2 gX9_mix_X9_right rfl rfl rfl (by decide +kernel) ⟨Nat.le_of_ble_eq_true rfl, Nat.le_of_ble_eq_true rfl⟩) (mm_preS hC hA hR _) rfl rfl hl.1 rfl (lv_room (Nat.le_of_ble_eq_true rfl)) dX9_mix_315 ⟨Nat.le_of_ble_eq_true rfl, Nat.le_of_ble_eq_true rfl⟩) (fun r77 M78 H locs hp hR => ?_)
                    obtain ⟨er, eM⟩ := hp
                    subst eM
                    subst er
                    refine lv_ixor hx hb dX9_mix_318 ?_
                    refine lv_iload_n hx hb dX9_mix_319 rfl (lv_at hl 3 rfl) ?_
                    refine lv_iload_n hx hb dX9_mix_320 rfl (lv_at hl 4 rfl) ?_
                    refine lv_iand hx hb dX9_mix_321 ?_
                    refine lv_iload_n hx hb dX9_mix_322 rfl (lv_at hl 3 rfl) ?_
                    refine lv_iload hx hb dX9_mix_323 (lv_at hl 5 rfl) ?_
                    refine lv_iand hx hb dX9_mix_325 ?_
                    refine lv_ixor hx hb dX9_mix_326 ?_
                    refine lv_iload_n hx hb dX9_mix_327 rfl (lv_at hl 4 rfl) ?_
                    refine lv_iload hx hb dX9_mix_328 (lv_at hl 5 rfl) ?_
                    refine lv_iand hx hb dX9_mix_330 ?_
                    refine lv_ixor hx hb dX9_mix_331 ?_
                    refine lv_iadd hx hb dX9_mix_332 ?_
                    refine lv_topi (fun x79 ex79 => ?_)
                    refine lv_istore (lv' := [(12, .int x79), (11, .int x72), (0, .ref (md 0)), (1, .int (nI o)), (2, .int ra), (3, .int rb), (4, .int rc), (5, .int rd), (6, .int re), (7, .int rf), (8, .int rg), (9, .int rh), (10, .int (nI i))]) hx hb dX9_mix_333 hl (by decide) rfl (fun ls hl => ?_)
                    refine lv_iload hx hb dX9_mix_335 (lv_at hl 10 rfl) ?_
                    refine lv_istore (lv' := [(9, .int rg), (12, .int x79), (11, .int x72), (0, .ref (md 0)), (1, .int (nI o)), (2, .int ra), (3, .int rb), (4, .int rc), (5, .int rd), (6, .int re), (7, .int rf), (8, .int rg), (10, .int (nI i))]) hx hb dX9_mix_337 hl (by decide) rfl (fun ls hl => ?_)
                    refine lv_iload hx hb dX9_mix_339 (lv_at hl 10 rfl) ?_
                    refine lv_istore (lv' := [(8, .int rf), (9, .int rg), (12, .int x79), (11, .int x72), (0, .ref (md 0)), (1, .int (nI o)), (2, .int ra), (3, .int rb), (4, .int rc), (5, .int rd), (6, .int re), (7, .int rf), (10, .int (nI i))]) hx hb dX9_mix_341 hl (by decide) rfl (fun ls hl => ?_)
                    refine lv_iload hx hb dX9_mix_343 (lv_at hl 10 rfl) ?_
                    refine lv_istore (lv' := [(7, .int re), (8, .int rf), (9, .int rg), (12, .int x79), (11, .int x72), (0, .ref (md 0)), (1, .int (nI o)), (2, .int ra), (3, .int rb), (4, .int rc), (5, .int rd), (6, .int re), (10, .int (nI i))]) hx hb dX9_mix_345 hl (by decide) rfl (fun ls hl => ?_)
                    refine lv_iload hx hb dX9_mix_347 (lv_at hl 10 rfl) ?_
                    refine lv_iload hx hb dX9_mix_349 (lv_at hl 4 rfl) ?_
                    refine lv_iadd hx hb dX9_mix_351 ?_
                    refine lv_istore (lv' := [(6, .int (rd + x72)), (7, .int re), (8, .int rf), (9, .int rg), (12, .int x79), (11, .int x72), (0, .ref (md 0)), (1, .int (nI o)), (2, .int ra), (3, .int rb), (4, .int rc), (5, .int rd), (10, .int (nI i))]) hx hb dX9_mix_352 hl (by decide) rfl (fun ls hl => ?_)
                    refine lv_iload hx hb dX9_mix_354 (lv_at hl 10 rfl) ?_
                    refine lv_istore (lv' := [(5, .int rc), (6, .int (rd + x72)), (7, .int re), (8, .int rf), (9, .int rg), (12, .int x79), (11, .int x72), (0, .ref (md 0)), (1, .int (nI o)), (2, .int ra), (3, .int rb), (4, .int rc), (10, .int (nI i))]) hx hb dX9_mix_356 hl (by decide) rfl (fun ls hl => ?_)
                    refine lv_iload_n hx hb dX9_mix_358 rfl (lv_at hl 10 rfl) ?_
                    refine lv_istore (lv' := [(4, .int rb), (5, .int rc), (6, .int (rd + x72)), (7, .int re), (8, .int rf), (9, .int rg), (12, .int x79), (11, .int x72), (0, .ref (md 0)), (1, .int (nI o)), (2, .int ra), (3, .int rb), (10, .int (nI i))]) hx hb dX9_mix_359 hl (by decide) rfl (fun ls hl => ?_)
                    refine lv_iload_n hx hb dX9_mix_361 rfl (lv_at hl 10 rfl) ?_
                    refine lv_istore_n (lv' := [(3, .int ra), (4, .int rb), (5, .int rc), (6, .int (rd + x72)), (7, .int re), (8, .int rf), (9, .int rg), (12, .int x79), (11, .int x72), (0, .ref (md 0)), (1, .int (nI o)), (2, .int ra), (10, .int (nI i))]) hx hb dX9_mix_362 rfl hl (by decide) rfl (fun ls hl => ?_)
                    refine lv_iload hx hb dX9_mix_363 (lv_at hl 8 rfl) ?_
                    refine lv_iload hx hb dX9_mix_365 (lv_at hl 7 rfl) ?_
                    refine lv_iadd hx hb dX9_mix_367 ?_
                    refine lv_topi (fun x80 ex80 => ?_)
                    refine lv_istore_n (lv' := [(2, .int x80), (3, .int ra), (4, .int rb), (5, .int rc), (6, .int (rd + x72)), (7, .int re), (8, .int rf), (9, .int rg), (12, .int x79), (11, .int x72), (0, .ref (md 0)), (1, .int (nI o)), (10, .int (nI i))]) hx hb dX9_mix_368 rfl hl (by decide) rfl (fun ls hl => ?_)
                    refine lv_iinc (v := (nI (i + 1))) (lv' := [(10, .int (nI (i + 1))), (2, .int x80), (3, .int ra), (4, .int rb), (5, .int rc), (6, .int (rd + x72)), (7, .int re), (8, .int rf), (9, .int rg), (12, .int x79), (11, .int x72), (0, .ref (md 0)), (1, .int (nI o))]) hx hb dX9_mix_369 hl (k := 12) rfl (by rw [show Int32.ofInt 1 = nI 1 from by decide]; exact nI_add _ _) (by decide) rfl (fun ls hl => ?_)
                    refine lv_goto (tgt := 235) hx hb dX9_mix_372 (by decide) ?_
                    exact ih (i + 1) x80 ra rb rc (rd + x72) re rf rg _ H locs ls (by omega) (by omega) h0 h10 h1 h14 h13 (by subst ex72 ex79 ex80 Era Erb Erc Erd Ere Erf Erg Erh; rw [hK i (by omega)]; exact (Int32.add_assoc _ _ _).symm) (by subst ex72 ex79 ex80 Era Erb Erc Erd Ere Erf Erg Erh; rfl) (by subst ex72 ex79 ex80 Era Erb Erc Erd Ere Erf Erg Erh; rfl) (by subst ex72 ex79 ex80 Era Erb Erc Erd Ere Erf Erg Erh; rfl) (by subst ex72 ex79 ex80 Era Erb Erc Erd Ere Erf Erg Erh; rw [hK i (by omega)]; rfl) (by subst ex72 ex79 ex80 Era Erb Erc Erd Ere Erf Erg Erh; rfl) (by subst ex72 ex79 ex80 Era Erb Erc Erd Ere Erf Erg Erh; rfl) (by subst ex72 ex79 ex80 Era Erb Erc Erd Ere Erf Erg Erh; rfl) hF hR (lv_sub hl [11, 12, 1, 2, 3, 4, 5, 6, 7, 8, 0] rfl)
              exact loopC (64 + 1) 0 x25 x26 x27 x28 x29 x30 x31 x32 _ _ _ ls (by omega) (by omega) h0 h10 h1 h14 h13 ex25 ex26 ex27 ex28 ex29 ex30 ex31 ex32 hF hR (lv_sub hl [9, 10, 8, 7, 6, 5, 4, 3, 2, 1, 0] rfl)
            · have c11 : ¬ (64 ≤ 16 + i) := fun z => c11 ((nI_leI (a := 64) (b := 16 + i) (by omega) (by omega)).mpr z)
              refine lv_aload_n hx hb dX9_mix_77 rfl (lv_at hl 0 rfl) ?_
              refine mm_get S hC hR (C := RX9) (T := TX9) (N := 23) (ref := "ForkWatchModel") (v := .ref (md 13)) 18 h0 inRX9 rfl (by decide) (by decide +kernel) (fun _ h9 => h9) rfl dX9_mix_78 ?_
              refine lv_iload_n hx hb dX9_mix_81 rfl (lv_at hl 2 rfl) ?_
              refine lv_bipush (v := nI 15) hx hb dX9_mix_82 (by decide) ?_
              refine lv_isub hx hb dX9_mix_84 ?_
              refine mm_eqi (pk_sub (by omega)) ?_
              refine mm_eqi (congrArg nI (show (16 + i) - 15 = i + 1 by omega)) ?_
              refine mm_iald S hC hR h13 (j := (i + 1)) (by omega) (by omega) dX9_mix_85 ?_
              refine lv_topi (fun x12 ex12 => ?_)
              refine lv_istore_n (lv' := [(3, .int x12), (0, .ref (md 0)), (1, .int (nI o)), (2, .int (nI (16 + i)))]) hx hb dX9_mix_86 rfl hl (by decide) rfl (fun ls hl => ?_)
              refine lv_aload_n hx hb dX9_mix_87 rfl (lv_at hl 1 rfl) ?_
              refine mm_get S hC hR (C := RX9) (T := TX9) (N := 23) (ref := "ForkWatchModel") (v := .ref (md 13)) 18 h0 inRX9 rfl (by decide) (by decide +kernel) (fun _ h9 => h9) rfl dX9_mix_88 ?_
              refine lv_iload_n hx hb dX9_mix_91 rfl (lv_at hl 3 rfl) ?_
              refine lv_iconst (v := nI 2) hx hb dX9_mix_92 (by decide) ?_
              refine lv_isub hx hb dX9_mix_93 ?_
              refine mm_eqi (pk_sub (by omega)) ?_
              refine mm_eqi (congrArg nI (show (16 + i) - 2 = i + 14 by omega)) ?_
              refine mm_iald S hC hR h13 (j := (i + 14)) (by omega) (by omega) dX9_mix_94 ?_
              refine lv_topi (fun x13 ex13 => ?_)
              refine lv_istore (lv' := [(4, .int x13), (3, .int x12), (0, .ref (md 0)), (1, .int (nI o)), (2, .int (nI (16 + i)))]) hx hb dX9_mix_95 hl (by decide) rfl (fun ls hl => ?_)
              refine lv_aload_n hx hb dX9_mix_97 rfl (lv_at hl 2 rfl) ?_
              refine mm_get S hC hR (C := RX9) (T := TX9) (N := 23) (ref := "ForkWatchModel") (v := .ref (md 13)) 18 h0 inRX9 rfl (by decide) (by decide +kernel) (fun _ h9 => h9) rfl dX9_mix_98 ?_
              refine lv_iload_n hx hb dX9_mix_101 rfl (lv_at hl 4 rfl) ?_
              refine lv_aload_n hx hb dX9_mix_102 rfl (lv_at hl 2 rfl) ?_
              refine mm_get S hC hR (C := RX9) (T := TX9) (N := 23) (ref := "ForkWatchModel") (v := .ref (md 13)) 18 h0 inRX9 rfl (by decide) (by decide +kernel) (fun _ h9 => h9) rfl dX9_mix_103 ?_
              refine lv_iload_n hx hb dX9_mix_106 rfl (lv_at hl 4 rfl) ?_
              refine lv_bipush (v := nI 16) hx hb dX9_mix_107 (by decide) ?_
              refine lv_isub hx hb dX9_mix_109 ?_
              refine mm_eqi (pk_sub (by omega)) ?_
              refine mm_eqi (congrArg nI (show (16 + i) - 16 = i by omega)) ?_
              refine mm_iald S hC hR h13 (j := i) (by omega) (by omega) dX9_mix_110 ?_
              refine lv_aload_n hx hb dX9_mix_111 rfl (lv_at hl 2 rfl) ?_
              refine mm_get S hC hR (C := RX9) (T := TX9) (N := 23) (ref := "ForkWatchModel") (v := .ref (md 13)) 18 h0 inRX9 rfl (by decide) (by decide +kernel) (fun _ h9 => h9) rfl dX9_mix_112 ?_
              refine lv_iload_n hx hb dX9_mix_115 rfl (lv_at hl 4 rfl) ?_
              refine lv_bipush (v := nI 7) hx hb dX9_mix_116 (by decide) ?_
              refine lv_isub hx hb dX9_mix_118 ?_
              refine mm_eqi (pk_sub (by omega)) ?_
              refine mm_eqi (congrArg nI (show (16 + i) - 7 = i + 9 by omega)) ?_
              refine mm_iald S hC hR h13 (j := (i + 9)) (by omega) (by omega) dX9_mix_119 ?_
              refine lv_iadd hx hb dX9_mix_120 ?_
              refine lv_iload_n hx hb dX9_mix_121 rfl (lv_at hl 1 rfl) ?_
              refine lv_bipush (v := nI 7) hx hb dX9_mix_122 (by decide) ?_
              refine mm_calli hA hR (va_runS (As := [.int x12, .int (nI 7)]) (rest := [.int (((sp_go w1 i) i) + ((sp_go w1 i) (i + 9))), .int (nI (16 + i)), .ref (md 13)]) S (c_X9_right l G M1 _ x12 7 (by decide) (by decide)) (va_cwS 2 S.2.2.2.2 gX9_mix_X9_right rfl rfl rfl (by decide +kernel) ⟨Nat.le_of_ble_eq_true rfl, Nat.le_of_ble_eq_true rfl⟩) (mm_preS hC hA hR _) rfl rfl hl.1 rfl (lv_room (Nat.le_of_ble_eq_true rfl)) dX9_mix_124 ⟨Nat.le_of_ble_eq_true rfl, Nat.le_of_ble_eq_true rfl⟩) (fun r14 M15 H locs hp hR => ?_)
              obtain ⟨er, eM⟩ := hp
              subst eM
              subst er
              refine lv_iload_n hx hb dX9_mix_127 rfl (lv_at hl 1 rfl) ?_
              refine lv_bipush (v := nI 18) hx hb dX9_mix_128 (by decide) ?_
              refine mm_calli hA hR (va_runS (As := [.int x12, .int (nI 18)]) (rest := [.int (rr x12 7), .int (((sp_go w1 i) i) + ((sp_go w1 i) (i + 9))), .int (nI (16 + i)), .ref (md 13)]) S (c_X9_right l G M1 _ x12 18 (by decide) (by decide)) (va_cwS 2 S.2.2.2.2 gX9_mix_X9_right rfl rfl rfl (by decide +kernel) ⟨Nat.le_of_ble_eq_true rfl, Nat.le_of_ble_eq_true rfl⟩) (mm_preS hC hA hR _) rfl rfl hl.1 rfl (lv_room (Nat.le_of_ble_eq_true rfl)) dX9_mix_130 ⟨Nat.le_of_ble_eq_true rfl, Nat.le_of_ble_eq_true rfl⟩) (fun r16 M17 H locs hp hR => ?_)
              obtain ⟨er, eM⟩ := hp
              subst eM
              subst er
              refine lv_ixor hx hb dX9_mix_133 ?_
              refine lv_iload_n hx hb dX9_mix_134 rfl (lv_at hl 1 rfl) ?_
              refine lv_iconst (v := nI 3) hx hb dX9_mix_135 (by decide) ?_
              refine lv_iushr hx hb dX9_mix_136 rfl ?_
              refine lv_ixor hx hb dX9_mix_137 ?_
              refine lv_iadd hx hb dX9_mix_138 ?_
              refine lv_iload hx hb dX9_mix_139 (lv_at hl 0 rfl) ?_
              refine lv_bipush (v := nI 17) hx hb dX9_mix_141 (by decide) ?_
              refine mm_calli hA hR (va_runS (As := [.int x13, .int (nI 17)]) (rest := [.int ((((sp_go w1 i) i) + ((sp_go w1 i) (i + 9))) + (((rr x12 7) ^^^ (rr x12 18)) ^^^ ((x12.toUInt32 >>> ((nI 3).toUInt32 &&& Int32.toUInt32 31)).toInt32))), .int (nI (16 + i)), .ref (md 13)]) S (c_X9_right l G M1 _ x13 17 (by decide) (by decide)) (va_cwS 2 S.2.2.2.2 gX9_mix_X9_right rfl rfl rfl (by decide +kernel) ⟨Nat.le_of_ble_eq_true rfl, Nat.le_of_ble_eq_true rfl⟩) (mm_preS hC hA hR _) rfl rfl hl.1 rfl (lv_room (Nat.le_of_ble_eq_true rfl)) dX9_mix_143 ⟨Nat.le_of_ble_eq_true rfl, Nat.le_of_ble_eq_true rfl⟩) (fun r18 M19 H locs hp hR => ?_)
              obtain ⟨er, eM⟩ := hp
              subst eM
              subst er
              refine lv_iload hx hb dX9_mix_146 (lv_at hl 0 rfl) ?_
              refine lv_bipush (v := nI 19) hx hb dX9_mix_148 (by decide) ?_
              refine mm_calli hA hR (va_runS (As := [.int x13, .int (nI 19)]) (rest := [.int (rr x13 17), .int ((((sp_go w1 i) i) + ((sp_go w1 i) (i + 9))) + (((rr x12 7) ^^^ (rr x12 18)) ^^^ ((x12.toUInt32 >>> ((nI 3).toUInt32 &&& Int32.toUInt32 31)).toInt32))), .int (nI (16 + i)), .ref (md 13)]) S (c_X9_right l G M1 _ x13 19 (by decide) (by decide)) (va_cwS 2 S.2.2.2.2 gX9_mix_X9_right rfl rfl rfl (by decide +kernel) ⟨Nat.le_of_ble_eq_true rfl, Nat.le_of_ble_eq_true rfl⟩) (mm_preS hC hA hR _) rfl rfl hl.1 rfl (lv_room (Nat.le_of_ble_eq_true rfl)) dX9_mix_150 ⟨Nat.le_of_ble_eq_true rfl, Nat.le_of_ble_eq_true rfl⟩) (fun r20 M21 H locs hp hR => ?_)
              obtain ⟨er, eM⟩ := hp
              subst eM
              subst er
              refine lv_ixor hx hb dX9_mix_153 ?_
              refine lv_iload hx hb dX9_mix_154 (lv_at hl 0 rfl) ?_
              refine lv_bipush (v := nI 10) hx hb dX9_mix_156 (by decide) ?_
              refine lv_iushr hx hb dX9_mix_158 rfl ?_
              refine lv_ixor hx hb dX9_mix_159 ?_
              refine lv_iadd hx hb dX9_mix_160 ?_
              refine mm_iast S hC hR h13 (j := (16 + i)) (by omega) (by omega) dX9_mix_161 (fun H locs M22 g24 f23 hR => ?_)
              have h0 := f23.at h0 (mm_nc (yne hJ (by decide) (by decide) (by decide)) mm_n0)
              have h10 := f23.at h10 (mm_nc (yne hJ (by decide) (by decide) (by decide)) mm_n0)
              have h1 := f23.at h1 (mm_nc (yne hJ (by decide) (by decide) (by decide)) mm_n0)
              have h14 := f23.at h14 (mm_nc (yne hJ (by decide) (by decide) (by decide)) mm_n0)
              have h13 : M22 (md 13) = some (ia G 64 (upd (sp_go w1 i) (16 + i) (((((sp_go w1 i) i) + ((sp_go w1 i) (i + 9))) + (((rr x12 7) ^^^ (rr x12 18)) ^^^ ((x12.toUInt32 >>> ((nI 3).toUInt32 &&& Int32.toUInt32 31)).toInt32))) + (((rr x13 17) ^^^ (rr x13 19)) ^^^ ((x13.toUInt32 >>> ((nI 10).toUInt32 &&& Int32.toUInt32 31)).toInt32))))) := g24
              have hF := hF.tr f23 (mm_ic 0 rfl mm_i0)
              refine lv_iinc (v := (nI (16 + i + 1))) (lv' := [(2, .int (nI (16 + i + 1))), (4, .int x13), (3, .int x12), (0, .ref (md 0)), (1, .int (nI o))]) hx hb dX9_mix_162 hl (k := 4) rfl (by rw [show Int32.ofInt 1 = nI 1 from by decide]; exact nI_add _ _) (by decide) rfl (fun ls hl => ?_)
              refine lv_goto (tgt := 71) hx hb dX9_mix_165 (by decide) ?_
              exact ih (i + 1)  _ H locs ls (by omega) (by omega) h0 h10 h1 h14 (cellE h13 (by subst ex12 ex13; exact sp_s)) hF hR (lv_sub hl [3, 4, 0] rfl)
        exact loopB (48 + 1) 0  _ _ _ ls (by omega) (by omega) h0 h10 h1 h14 h13 hF hR (lv_sub hl [1, 2, 0] rfl)
      · have c7 : ¬ (16 ≤ i) := fun z => c7 ((nI_leI (a := 16) (b := i) (by omega) (by omega)).mpr z)
        refine lv_iload_n hx hb dX9_mix_8 rfl (lv_at hl 1 rfl) ?_
        refine lv_iconst (v := nI 4) hx hb dX9_mix_9 (by decide) ?_
        refine lv_iload_n hx hb dX9_mix_10 rfl (lv_at hl 2 rfl) ?_
        refine lv_imul hx hb dX9_mix_11 ?_
        refine mm_eqi (pk_mul _ _) ?_
        refine lv_iadd hx hb dX9_mix_12 ?_
        refine mm_eqi (nI_add _ _) ?_
        refine lv_istore_n (lv' := [(3, .int (nI (o + (4 * i)))), (0, .ref (md 0)), (1, .int (nI o)), (2, .int (nI i))]) hx hb dX9_mix_13 rfl hl (by decide) rfl (fun ls hl => ?_)
        refine lv_aload_n hx hb dX9_mix_14 rfl (lv_at hl 1 rfl) ?_
        refine mm_get S hC hR (C := RX9) (T := TX9) (N := 23) (ref := "ForkWatchModel") (v := .ref (md 13)) 18 h0 inRX9 rfl (by decide) (by decide +kernel) (fun _ h9 => h9) rfl dX9_mix_15 ?_
        refine lv_iload_n hx hb dX9_mix_18 rfl (lv_at hl 3 rfl) ?_
        refine lv_aload_n hx hb dX9_mix_19 rfl (lv_at hl 1 rfl) ?_
        refine mm_get S hC hR (C := RX9) (T := TX9) (N := 23) (ref := "ForkWatchModel") (v := .ref (md 10)) 14 h0 inRX9 rfl (by decide) (by decide +kernel) (fun _ h9 => h9) rfl dX9_mix_20 ?_
        refine lv_iload_n hx hb dX9_mix_23 rfl (lv_at hl 0 rfl) ?_
        refine mm_iald S hC hR h10 (j := (o + (4 * i))) (by omega) (by omega) dX9_mix_24 ?_
        refine lv_bipush (v := nI 24) hx hb dX9_mix_25 (by decide) ?_
        refine lv_ishl hx hb dX9_mix_27 ?_
        refine lv_aload_n hx hb dX9_mix_28 rfl (lv_at hl 1 rfl) ?_
        refine mm_get S hC hR (C := RX9) (T := TX9) (N := 23) (ref := "ForkWatchModel") (v := .ref (md 10)) 14 h0 inRX9 rfl (by decide) (by decide +kernel) (fun _ h9 => h9) rfl dX9_mix_29 ?_
        refine lv_iload_n hx hb dX9_mix_32 rfl (lv_at hl 0 rfl) ?_
        refine lv_iconst (v := nI 1) hx hb dX9_mix_33 (by decide) ?_
        refine lv_iadd hx hb dX9_mix_34 ?_
        refine mm_eqi (nI_add _ _) ?_
        refine mm_iald S hC hR h10 (j := (o + (4 * i) + 1)) (by omega) (by omega) dX9_mix_35 ?_
        refine lv_bipush (v := nI 16) hx hb dX9_mix_36 (by decide) ?_
        refine lv_ishl hx hb dX9_mix_38 ?_
        refine lv_ior hx hb dX9_mix_39 ?_
        refine lv_aload_n hx hb dX9_mix_40 rfl (lv_at hl 1 rfl) ?_
        refine mm_get S hC hR (C := RX9) (T := TX9) (N := 23) (ref := "ForkWatchModel") (v := .ref (md 10)) 14 h0 inRX9 rfl (by decide) (by decide +kernel) (fun _ h9 => h9) rfl dX9_mix_41 ?_
        refine lv_iload_n hx hb dX9_mix_44 rfl (lv_at hl 0 rfl) ?_
        refine lv_iconst (v := nI 2) hx hb dX9_mix_45 (by decide) ?_
        refine lv_iadd hx hb dX9_mix_46 ?_
        refine mm_eqi (nI_add _ _) ?_
        refine mm_iald S hC hR h10 (j := (o + (4 * i) + 2)) (by omega) (by omega) dX9_mix_47 ?_
        refine lv_bipush (v := nI 8) hx hb dX9_mix_48 (by decide) ?_
        refine lv_ishl hx hb dX9_mix_50 ?_
        refine lv_ior hx hb dX9_mix_51 ?_
        refine lv_aload_n hx hb dX9_mix_52 rfl (lv_at hl 1 rfl) ?_
        refine mm_get S hC hR (C := RX9) (T := TX9) (N := 23) (ref := "ForkWatchModel") (v := .ref (md 10)) 14 h0 inRX9 rfl (by decide) (by decide +kernel) (fun _ h9 => h9) rfl dX9_mix_53 ?_
        refine lv_iload_n hx hb dX9_mix_56 rfl (lv_at hl 0 rfl) ?_
        refine lv_iconst (v := nI 3) hx hb dX9_mix_57 (by decide) ?_
        refine lv_iadd hx hb dX9_mix_58 ?_
        refine mm_eqi (nI_add _ _) ?_
        refine mm_iald S hC hR h10 (j := (o + (4 * i) + 3)) (by omega) (by omega) dX9_mix_59 ?_
        refine lv_ior hx hb dX9_mix_60 ?_
        refine mm_iast S hC hR h13 (j := i) (by omega) (by omega) dX9_mix_61 (fun H locs M8 g10 f9 hR => ?_)
        have h0 := f9.at h0 (mm_nc (yne hJ (by decide) (by decide) (by decide)) mm_n0)
        have h10 := f9.at h10 (mm_nc (yne hJ (by decide) (by decide) (by decide)) mm_n0)
        have h1 := f9.at h1 (mm_nc (yne hJ (by decide) (by decide) (by decide)) mm_n0)
        have h14 := f9.at h14 (mm_nc (yne hJ (by decide) (by decide) (by decide)) mm_n0)
        have h13 : M8 (md 13) = some (ia G 64 (upd (wfill f o g i) i (((((f (o + (4 * i))) <<< ((nI 24) &&& 31)) ||| ((f (o + (4 * i) + 1)) <<< ((nI 16) &&& 31))) ||| ((f (o + (4 * i) + 2)) <<< ((nI 8) &&& 31))) ||| (f (o + (4 * i) + 3))))) := g10
        have hF := hF.tr f9 (mm_ic 0 rfl mm_i0)
        refine lv_iinc (v := (nI (i + 1))) (lv' := [(2, .int (nI (i + 1))), (3, .int (nI (o + (4 * i)))), (0, .ref (md 0)), (1, .int (nI o))]) hx hb dX9_mix_62 hl (k := 3) rfl (by rw [show Int32.ofInt 1 = nI 1 from by decide]; exact nI_add _ _) (by decide) rfl (fun ls hl => ?_)
        refine lv_goto (tgt := 2) hx hb dX9_mix_65 (by decide) ?_
        exact ih (i + 1)  _ H locs ls (by omega) (by omega) h0 h10 h1 h14 (cellE h13 wf_s) hF hR (lv_sub hl [2, 3, 0] rfl)
  exact loopA (16 + 1) 0  _ _ _ ls (by omega) (by omega) h0 h10 h1 h14 (cellE h13 wf_0.symm) hF hR (lv_sub hl [1, 2, 0] rfl)
