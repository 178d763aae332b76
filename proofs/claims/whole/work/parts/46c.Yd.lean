set_option maxHeartbeats 4000000 in
set_option maxRecDepth 100000 in
/-- advance(client) -/
theorem c_X9_advance (l : Launch) (G : mm_G) (M : mm_M) (sz : Nat) (md : Nat → Nat) (v6 v9 v11 v12 v13 v22 : Int32) (f d : Nat → Int32) (cc jj : Nat) (ss rr0 fs fl s7 tt p : Nat → Int32) (ln : Nat → Nat) (h3 : M (md 3) = some (ia G 2016 ss)) (h4 : M (md 4) = some (ia G 336 rr0)) (h5 : M (md 5) = some (ia G 1152 fs)) (h6 : M (md 6) = some (ia G 96 fl)) (h7 : M (md 7) = some (ia G 4 s7)) (h15 : M (md 15) = some (ia G 512 tt)) (h16 : M (md 16) = some (ia G 64 p)) (hJ : yI md) (hS : yS G M md v6 v9 v11 v12 v13 v22 0 f d) (hc4 : cc < 4) (hj6 : jj < 6) (hs7 : s7 cc = nI jj) (hln : ∀ x, x < 16 → fl (16 * jj + x) = nI (ln x) ∧ ln x ≤ 12) (hbf : ∀ x, x < 192 → byt (fs (192 * jj + x))) (hbs : ∀ q, q < 4 → ∀ i, i < 84 → byt (ss (84 * (4 * jj + q) + i))) (hin : inl (fun q => shf ss (84 * (4 * jj + q)))) (hbr : b20 (shf rr0 (84 * cc))) : mm_v l yX9_advance wsX9_advance ({ frames := 5, cells := 0, slots := 0, locals := 230 } : Room) G ([.ref (md 0), .int (nI cc)] : List Value) M sz (fun M' => ∃ w22 f' d' r' t' p', yS G M' md v6 v9 v11 (v12 + nI 1) v13 w22 0 f' d' ∧ M' (md 3) = some (ia G 2016 (va_cpy r' ss (84 * cc) (84 * (4 * jj + cc)) 84)) ∧ M' (md 4) = some (ia G 336 r') ∧ M' (md 15) = some (ia G 512 t') ∧ M' (md 16) = some (ia G 64 p') ∧ (∀ i, i < 84 → r' (84 * cc + i) = nst (fun q => shf ss (84 * (4 * jj + q))) (shf rr0 (84 * cc)) (rtn (fun x => fs (192 * jj + x)) ln) cc i) ∧ (∀ i, i < 84 * cc ∨ 84 * cc + 84 ≤ i → r' i = rr0 i) ∧ mm_fr [md 0, md 10, md 11, md 12, md 13, md 14, md 3, md 4, md 15, md 16] M M') := by
  refine mm_enter (cc := cX9_advance) (maxL := 7) (ret := none) _ (by decide) rfl (Nat.le_of_ble_eq_true rfl) ?_
  intro p0 e0 s m0 be0 me0 c0 ls S hr hlocks hname hA hC hR hl
  have hx := S.1
  have hb := S.2.1
  have hl : lv_has ls 7 [(0, .ref (md 0)), (1, .int (nI cc))] := hl
  have inRX9 : ∀ w ∈ wsX90, w ∈ wsX9_advance := by decide +kernel
  have hF : mm_fr [md 0, md 10, md 11, md 12, md 13, md 14, md 3, md 4, md 15, md 16] M M := mm_fr.rf
  have h0 : M (md 0) = some (ob 10 [.ref (md 1), .ref (md 2), .ref (md 3), .ref (md 4), .ref (md 5), .ref (md 6), .int v6, .ref (md 7), .ref (md 8), .int v9, .ref (md 9), .int v11, .int v12, .int v13, .ref (md 10), .int (nI 0), .ref (md 11), .ref (md 12), .ref (md 13), .ref (md 14), .ref (md 15), .ref (md 16), .int v22]) := hS.1
  have h10 : M (md 10) = some (ia G 256 f) := hS.2.1
  have h11 : M (md 11) = some (ia G 32 d) := hS.2.2.1
  obtain ⟨st, est⟩ : ∃ z : Nat → Nat → Int32, z = (fun q => shf ss (84 * (4 * jj + q))) := ⟨_, rfl⟩
  have hst : ∀ q, shf ss (84 * (4 * jj + q)) = st q := fun q => by rw [est]
  have hss : ∀ q i, ss (84 * (4 * jj + q) + i) = st q i := fun q i => by rw [← hst]; rfl
  rw [← est] at hin
  refine lv_aload_n hx hb dX9_advance_0 rfl (lv_at hl 0 rfl) ?_
  refine mm_get S hC hR (C := RX9) (T := TX9) (N := 23) (ref := "ForkWatchModel") (v := .ref (md 7)) 7 h0 inRX9 rfl (by decide) (by decide +kernel) (fun _ h9 => h9) rfl dX9_advance_1 ?_
  refine lv_iload_n hx hb dX9_advance_4 rfl (lv_at hl 1 rfl) ?_
  refine mm_iald S hC hR h7 (j := cc) (by omega) (by omega) dX9_advance_5 ?_
  refine mm_eqi hs7 ?_
  refine lv_istore_n (lv' := [(2, .int (nI jj)), (0, .ref (md 0)), (1, .int (nI cc))]) hx hb dX9_advance_6 rfl hl (by decide) rfl (fun ls hl => ?_)
  refine lv_iload_n hx hb dX9_advance_7 rfl (lv_at hl 0 rfl) ?_
  refine lv_aload_n hx hb dX9_advance_8 rfl (lv_at hl 1 rfl) ?_
  refine lv_iload_n hx hb dX9_advance_9 rfl (lv_at hl 0 rfl) ?_
  refine mm_calli hA hR (va_runV (As := [.int (nI jj)]) (rest := [.int (nI jj)]) S (c_X9_greatest l G M _ md _ _ _ _ _ _ _ _ _ jj ss h3 hJ hS hj6 (by rw [← est]; exact hin)) (cwV 1 S.2.2.2.2 gX9_advance_X9_greatest rfl rfl rfl (by decide +kernel) ⟨Nat.le_of_ble_eq_true rfl, Nat.le_of_ble_eq_true rfl⟩) (mm_preV hC hA hR _ h0 rfl) rfl rfl hl.1 rfl (lv_room (Nat.le_of_ble_eq_true rfl)) dX9_advance_10 ⟨Nat.le_of_ble_eq_true rfl, Nat.le_of_ble_eq_true rfl⟩) (fun r24 M25 H locs hp hR => ?_)
  obtain ⟨er, eM⟩ := hp
  subst eM
  rw [← est] at er
  subst er
  obtain ⟨g, eg⟩ : ∃ z, z = gr st := ⟨_, rfl⟩
  have hg4 : g < 4 := by rw [eg]; exact gr_lt st
  refine mm_eqi (congrArg nI (show gr st = g by omega)) ?_
  refine mm_calli hA hR (va_runS (As := [.int (nI jj), .int (nI g)]) (rest := []) S (c_X9_placeOf l G M _ jj g) (va_cwS 2 S.2.2.2.2 gX9_advance_X9_placeOf rfl rfl rfl (by decide +kernel) ⟨Nat.le_of_ble_eq_true rfl, Nat.le_of_ble_eq_true rfl⟩) (mm_preS hC hA hR _) rfl rfl hl.1 rfl (lv_room (Nat.le_of_ble_eq_true rfl)) dX9_advance_13 ⟨Nat.le_of_ble_eq_true rfl, Nat.le_of_ble_eq_true rfl⟩) (fun r26 M27 H locs hp hR => ?_)
  obtain ⟨er, eM⟩ := hp
  subst eM
  subst er
  obtain ⟨pl, epl⟩ : ∃ z, z = 84 * (4 * jj + g) := ⟨_, rfl⟩
  refine mm_eqi (congrArg nI (show 84 * (4 * jj + g) = pl by omega)) ?_
  refine lv_istore_n (lv' := [(3, .int (nI pl)), (2, .int (nI jj)), (0, .ref (md 0)), (1, .int (nI cc))]) hx hb dX9_advance_16 rfl hl (by decide) rfl (fun ls hl => ?_)
  refine lv_iconst (v := nI 4) hx hb dX9_advance_17 (by decide) ?_
  refine lv_istore (lv' := [(4, .int (nI 4)), (3, .int (nI pl)), (2, .int (nI jj)), (0, .ref (md 0)), (1, .int (nI cc))]) hx hb dX9_advance_18 hl (by decide) rfl (fun ls hl => ?_)
  have loopA : ∀ (n : Nat) (i : Nat)  (M1 : mm_M) (H : Heap) (locs : List Loc) (ls : Array Slot), (16 < i + n) → (i ≤ 16) → (yS G M1 md v6 v9 v11 v12 v13 v22 0 f d) → (M1 (md 3) = some (ia G 2016 ss)) → (M1 (md 4) = some (ia G 336 (va_cpy ss rr0 (pl + 4) (84 * cc + 4) i))) → (M1 (md 5) = some (ia G 1152 fs)) → (M1 (md 6) = some (ia G 96 fl)) → (M1 (md 7) = some (ia G 4 s7)) → (M1 (md 15) = some (ia G 512 tt)) → (M1 (md 16) = some (ia G 64 p)) → (mm_fr [md 0, md 10, md 11, md 12, md 13, md 14, md 3, md 4, md 15, md 16] M M1) → mm_R G s (mm_A M sz) M1 H locs → lv_has ls 7 [(0, .ref (md 0)), (1, .int (nI cc)), (2, .int (nI jj)), (3, .int (nI pl)), (4, .int (nI (4 + i)))] → W p0 l e0 ({ frames := 5, cells := 0, slots := 0, locals := 230 } : Room) s m0 ([.ref (md 0), .int (nI cc)] : List Value).toArray be0 me0 c0 H locs 0 0 (MQ be0 (va_Qv (fun M' => ∃ w22 f' d' r' t' p', yS G M' md v6 v9 v11 (v12 + nI 1) v13 w22 0 f' d' ∧ M' (md 3) = some (ia G 2016 (va_cpy r' ss (84 * cc) (84 * (4 * jj + cc)) 84)) ∧ M' (md 4) = some (ia G 336 r') ∧ M' (md 15) = some (ia G 512 t') ∧ M' (md 16) = some (ia G 64 p') ∧ (∀ i, i < 84 → r' (84 * cc + i) = nst (fun q => shf ss (84 * (4 * jj + q))) (shf rr0 (84 * cc)) (rtn (fun x => fs (192 * jj + x)) ln) cc i) ∧ (∀ i, i < 84 * cc ∨ 84 * cc + 84 ≤ i → r' i = rr0 i) ∧ mm_fr [md 0, md 10, md 11, md 12, md 13, md 14, md 3, md 4, md 15, md 16] M M') (fun M' t => mm_H G (mm_A M sz) M' t.heap) (mm_A M sz)) ([.ref (md 0), .int (nI cc)] : List Value).toArray s 0 0 (mm_A M sz)) (F0 m0 20 ls []) := by
    intro n
    induction n with
    | zero =>
      intro i  M1 H locs ls hn hi hS h3 h4 h5 h6 h7 h15 h16 hF hR hl
      omega
    | succ n ih =>
      intro i  M1 H locs ls hn hi hS h3 h4 h5 h6 h7 h15 h16 hF hR hl
      have h0 : M1 (md 0) = some (ob 10 [.ref (md 1), .ref (md 2), .ref (md 3), .ref (md 4), .ref (md 5), .ref (md 6), .int v6, .ref (md 7), .ref (md 8), .int v9, .ref (md 9), .int v11, .int v12, .int v13, .ref (md 10), .int (nI 0), .ref (md 11), .ref (md 12), .ref (md 13), .ref (md 14), .ref (md 15), .ref (md 16), .int v22]) := hS.1
      have h10 : M1 (md 10) = some (ia G 256 f) := hS.2.1
      have h11 : M1 (md 11) = some (ia G 32 d) := hS.2.2.1
      refine lv_iload hx hb dX9_advance_20 (lv_at hl 4 rfl) ?_
      refine lv_bipush (v := nI 20) hx hb dX9_advance_22 (by decide) ?_
      refine lv_icmp_ge (tgt := 54) hx hb dX9_advance_24 (by decide) (fun c28 => ?_) (fun c28 => ?_)
      · have c28 : 20 ≤ 4 + i := (nI_leI (a := 20) (b := 4 + i) (by omega) (by omega)).mp c28
        have e4 : 16 = i := by omega
        subst e4
        obtain ⟨r1, er1⟩ : ∃ z : Nat → Int32, z = va_cpy ss rr0 (pl + 4) (84 * cc + 4) 16 := ⟨_, rfl⟩
        rw [← er1] at h4
        have hr1 : ∀ i, i < 16 → r1 (84 * cc + 4 + i) = st g (4 + i) := fun i hi => by rw [er1, cpy_in (by omega) (by omega), ← hss, ← epl]; congr 1; omega
        have hr1o : ∀ i, i < 84 * cc + 4 ∨ 84 * cc + 20 ≤ i → r1 i = rr0 i := fun i hi => by rw [er1, cpy_out (by omega)]
        refine lv_bipush (v := nI 84) hx hb dX9_advance_54 (by decide) ?_
        refine lv_iload_n hx hb dX9_advance_56 rfl (lv_at hl 1 rfl) ?_
        refine lv_imul hx hb dX9_advance_57 ?_
        refine mm_eqi (pk_mul _ _) ?_
        refine lv_iconst (v := nI 4) hx hb dX9_advance_58 (by decide) ?_
        refine lv_iadd hx hb dX9_advance_59 ?_
        refine mm_eqi (nI_add _ _) ?_
        refine lv_iconst (v := nI 4) hx hb dX9_advance_60 (by decide) ?_
        refine lv_iload_n hx hb dX9_advance_61 rfl (lv_at hl 1 rfl) ?_
        refine lv_imul hx hb dX9_advance_62 ?_
        refine mm_eqi (pk_mul _ _) ?_
        refine lv_iadd hx hb dX9_advance_63 ?_
        refine mm_eqi (nI_add _ _) ?_
        obtain ⟨at_, eat⟩ : ∃ z, z = 84 * cc + 4 + 4 * cc := ⟨_, rfl⟩
        refine mm_eqi (congrArg nI (show 84 * cc + 4 + (4 * cc) = at_ by omega)) ?_
        refine lv_istore (lv' := [(4, .int (nI at_)), (0, .ref (md 0)), (1, .int (nI cc)), (2, .int (nI jj)), (3, .int (nI pl))]) hx hb dX9_advance_64 hl (by decide) rfl (fun ls hl => ?_)
        refine lv_aload_n hx hb dX9_advance_66 rfl (lv_at hl 1 rfl) ?_
        refine mm_get S hC hR (C := RX9) (T := TX9) (N := 23) (ref := "ForkWatchModel") (v := .ref (md 4)) 3 h0 inRX9 rfl (by decide) (by decide +kernel) (fun _ h9 => h9) rfl dX9_advance_67 ?_
        refine lv_iload hx hb dX9_advance_70 (lv_at hl 0 rfl) ?_
        refine mm_iald S hC hR h4 (j := at_) (by omega) (by omega) dX9_advance_72 ?_
        refine lv_bipush (v := nI 24) hx hb dX9_advance_73 (by decide) ?_
        refine lv_ishl hx hb dX9_advance_75 ?_
        refine lv_aload_n hx hb dX9_advance_76 rfl (lv_at hl 1 rfl) ?_
        refine mm_get S hC hR (C := RX9) (T := TX9) (N := 23) (ref := "ForkWatchModel") (v := .ref (md 4)) 3 h0 inRX9 rfl (by decide) (by decide +kernel) (fun _ h9 => h9) rfl dX9_advance_77 ?_
        refine lv_iload hx hb dX9_advance_80 (lv_at hl 0 rfl) ?_
        refine lv_iconst (v := nI 1) hx hb dX9_advance_82 (by decide) ?_
        refine lv_iadd hx hb dX9_advance_83 ?_
        refine mm_eqi (nI_add _ _) ?_
        refine mm_iald S hC hR h4 (j := (at_ + 1)) (by omega) (by omega) dX9_advance_84 ?_
        refine lv_bipush (v := nI 16) hx hb dX9_advance_85 (by decide) ?_
        refine lv_ishl hx hb dX9_advance_87 ?_
        refine lv_ior hx hb dX9_advance_88 ?_
        refine lv_aload_n hx hb dX9_advance_89 rfl (lv_at hl 1 rfl) ?_
        refine mm_get S hC hR (C := RX9) (T := TX9) (N := 23) (ref := "ForkWatchModel") (v := .ref (md 4)) 3 h0 inRX9 rfl (by decide) (by decide +kernel) (fun _ h9 => h9) rfl dX9_advance_90 ?_
        refine lv_iload hx hb dX9_advance_93 (lv_at hl 0 rfl) ?_
        refine lv_iconst (v := nI 2) hx hb dX9_advance_95 (by decide) ?_
        refine lv_iadd hx hb dX9_advance_96 ?_
        refine mm_eqi (nI_add _ _) ?_
        refine mm_iald S hC hR h4 (j := (at_ + 2)) (by omega) (by omega) dX9_advance_97 ?_
        refine lv_bipush (v := nI 8) hx hb dX9_advance_98 (by decide) ?_
        refine lv_ishl hx hb dX9_advance_100 ?_
        refine lv_ior hx hb dX9_advance_101 ?_
        refine lv_aload_n hx hb dX9_advance_102 rfl (lv_at hl 1 rfl) ?_
        refine mm_get S hC hR (C := RX9) (T := TX9) (N := 23) (ref := "ForkWatchModel") (v := .ref (md 4)) 3 h0 inRX9 rfl (by decide) (by decide +kernel) (fun _ h9 => h9) rfl dX9_advance_103 ?_
        refine lv_iload hx hb dX9_advance_106 (lv_at hl 0 rfl) ?_
        refine lv_iconst (v := nI 3) hx hb dX9_advance_108 (by decide) ?_
        refine lv_iadd hx hb dX9_advance_109 ?_
        refine mm_eqi (nI_add _ _) ?_
        refine mm_iald S hC hR h4 (j := (at_ + 3)) (by omega) (by omega) dX9_advance_110 ?_
        refine lv_ior hx hb dX9_advance_111 ?_
        refine lv_topi (fun x29 ex29 => ?_)
        refine lv_istore (lv' := [(5, .int x29), (4, .int (nI at_)), (0, .ref (md 0)), (1, .int (nI cc)), (2, .int (nI jj)), (3, .int (nI pl))]) hx hb dX9_advance_112 hl (by decide) rfl (fun ls hl => ?_)
        refine lv_iload hx hb dX9_advance_114 (lv_at hl 0 rfl) ?_
        refine lv_iconst (v := nI 1) hx hb dX9_advance_116 (by decide) ?_
        refine lv_iadd hx hb dX9_advance_117 ?_
        refine lv_topi (fun x30 ex30 => ?_)
        refine lv_istore (lv' := [(5, .int x30), (4, .int (nI at_)), (0, .ref (md 0)), (1, .int (nI cc)), (2, .int (nI jj)), (3, .int (nI pl))]) hx hb dX9_advance_118 hl (by decide) rfl (fun ls hl => ?_)
        refine lv_iconst (v := nI 0) hx hb dX9_advance_120 (by decide) ?_
        refine lv_istore (lv' := [(6, .int (nI 0)), (5, .int x30), (4, .int (nI at_)), (0, .ref (md 0)), (1, .int (nI cc)), (2, .int (nI jj)), (3, .int (nI pl))]) hx hb dX9_advance_121 hl (by decide) rfl (fun ls hl => ?_)
        have loopB : ∀ (n : Nat) (i : Nat)  (M1 : mm_M) (H : Heap) (locs : List Loc) (ls : Array Slot), (4 < i + n) → (i ≤ 4) → (yS G M1 md v6 v9 v11 v12 v13 v22 0 f d) → (M1 (md 3) = some (ia G 2016 ss)) → (M1 (md 4) = some (ia G 336 (av_go r1 x30 at_ i))) → (M1 (md 5) = some (ia G 1152 fs)) → (M1 (md 6) = some (ia G 96 fl)) → (M1 (md 7) = some (ia G 4 s7)) → (M1 (md 15) = some (ia G 512 tt)) → (M1 (md 16) = some (ia G 64 p)) → (mm_fr [md 0, md 10, md 11, md 12, md 13, md 14, md 3, md 4, md 15, md 16] M M1) → mm_R G s (mm_A M sz) M1 H locs → lv_has ls 7 [(0, .ref (md 0)), (1, .int (nI cc)), (2, .int (nI jj)), (3, .int (nI pl)), (4, .int (nI at_)), (5, .int x30), (6, .int (nI i))] → W p0 l e0 ({ frames := 5, cells := 0, slots := 0, locals := 230 } : Room) s m0 ([.ref (md 0), .int (nI cc)] : List Value).toArray be0 me0 c0 H locs 0 0 (MQ be0 (va_Qv (fun M' => ∃ w22 f' d' r' t' p', yS G M' md v6 v9 v11 (v12 + nI 1) v13 w22 0 f' d' ∧ M' (md 3) = some (ia G 2016 (va_cpy r' ss (84 * cc) (84 * (4 * jj + cc)) 84)) ∧ M' (md 4) = some (ia G 336 r') ∧ M' (md 15) = some (ia G 512 t') ∧ M' (md 16) = some (ia G 64 p') ∧ (∀ i, i < 84 → r' (84 * cc + i) = nst (fun q => shf ss (84 * (4 * jj + q))) (shf rr0 (84 * cc)) (rtn (fun x => fs (192 * jj + x)) ln) cc i) ∧ (∀ i, i < 84 * cc ∨ 84 * cc + 84 ≤ i → r' i = rr0 i) ∧ mm_fr [md 0, md 10, md 11, md 12, md 13, md 14, md 3, md 4, md 15, md 16] M M') (fun M' t => mm_H G (mm_A M sz) M' t.heap) (mm_A M sz)) ([.ref (md 0), .int (nI cc)] : List Value).toArray s 0 0 (mm_A M sz)) (F0 m0 123 ls []) := by
          intro n
          induction n with
          | zero =>
            intro i  M1 H locs ls hn hi hS h3 h4 h5 h6 h7 h15 h16 hF hR hl
            omega
          | succ n ih =>
            intro i  M1 H locs ls hn hi hS h3 h4 h5 h6 h7 h15 h16 hF hR hl
            have h0 : M1 (md 0) = some (ob 10 [.ref (md 1), .ref (md 2), .ref (md 3), .ref (md 4), .ref (md 5), .ref (md 6), .int v6, .ref (md 7), .ref (md 8), .int v9, .ref (md 9), .int v11, .int v12, .int v13, .ref (md 10), .int (nI 0), .ref (md 11), .ref (md 12), .ref (md 13), .ref (md 14), .ref (md 15), .ref (md 16), .int v22]) := hS.1
            have h10 : M1 (md 10) = some (ia G 256 f) := hS.2.1
            have h11 : M1 (md 11) = some (ia G 32 d) := hS.2.2.1
            refine lv_iload hx hb dX9_advance_123 (lv_at hl 6 rfl) ?_
            refine lv_iconst (v := nI 4) hx hb dX9_advance_125 (by decide) ?_
            refine lv_icmp_ge (tgt := 160) hx hb dX9_advance_126 (by decide) (fun c31 => ?_) (fun c31 => ?_)
            · have c31 : 4 ≤ i := (nI_leI (a := 4) (b := i) (by omega) (by omega)).mp c31
              have e4 : 4 = i := by omega
              subst e4
              obtain ⟨r2, er2⟩ : ∃ z : Nat → Int32, z = av_go r1 x30 at_ 4 := ⟨_, rfl⟩
              rw [← er2] at h4
              have ha : ∀ i, i < 20 → shf r2 (84 * cc) i = adv (st g) (shf rr0 (84 * cc)) cc i := fun i hi => by
                unfold adv
                show r2 (84 * cc + i) = _
                by_cases h9 : 4 + 4 * cc ≤ i ∧ i < 8 + 4 * cc
                · have q0 := hr1 (4 * cc) (by omega)
                  have q1 := hr1 (4 * cc + 1) (by omega)
                  have q2 := hr1 (4 * cc + 2) (by omega)
                  have q3 := hr1 (4 * cc + 3) (by omega)
                  rw [if_pos h9, er2, show 84 * cc + i = at_ + (i - (4 + 4 * cc)) by omega, av_in 4 _ (by omega), ex30, ex29]
                  rw [show 84 * cc + 4 + 4 * cc = at_ by omega] at q0
                  rw [show 84 * cc + 4 + (4 * cc + 1) = at_ + 1 by omega, ← Nat.add_assoc 4 (4 * cc) 1] at q1
                  rw [show 84 * cc + 4 + (4 * cc + 2) = at_ + 2 by omega, ← Nat.add_assoc 4 (4 * cc) 2] at q2
                  rw [show 84 * cc + 4 + (4 * cc + 3) = at_ + 3 by omega, ← Nat.add_assoc 4 (4 * cc) 3] at q3
                  rw [q0, q1, q2, q3]
                  rfl
                · rw [if_neg h9, er2, av_out 4 _ (by omega)]
                  by_cases h8 : 4 ≤ i ∧ i < 20
                  · rw [if_pos h8]
                    have q0 := hr1 (i - 4) (by omega)
                    rw [show 84 * cc + 4 + (i - 4) = 84 * cc + i by omega, show 4 + (i - 4) = i by omega] at q0
                    exact q0
                  · rw [if_neg h8, hr1o _ (by omega)]
                    rfl
              have ha2 : b20 (shf r2 (84 * cc)) := fun i hi => by rw [ha i hi]; exact adv_by (fun j hj => by rw [← hss]; exact hbs g hg4 j (by omega)) hbr i hi
              refine lv_aload_n hx hb dX9_advance_160 rfl (lv_at hl 0 rfl) ?_
              refine lv_iload_n hx hb dX9_advance_161 rfl (lv_at hl 2 rfl) ?_
              refine mm_callv hA hR (va_runV (As := [.int (nI jj)]) (rest := []) S (c_X9_findRoot l G M1 _ md _ _ _ _ _ _ _ _ _ jj fs fl _ ln h5 h6 h15 hJ hS hj6 hln hbf) (cwV 1 S.2.2.2.2 gX9_advance_X9_findRoot rfl rfl rfl (by decide +kernel) ⟨Nat.le_of_ble_eq_true rfl, Nat.le_of_ble_eq_true rfl⟩) (mm_preV hC hA hR _ h0 rfl) rfl rfl hl.1 rfl (lv_room (Nat.le_of_ble_eq_true rfl)) dX9_advance_162 ⟨Nat.le_of_ble_eq_true rfl, Nat.le_of_ble_eq_true rfl⟩) (fun M33 H locs hp hR => ?_)
              obtain ⟨fb, db, tb, hS, h15, hT, ff⟩ := hp
              have h3 := ff.at h3 (mm_nc (yne hJ (by decide) (by decide) (by decide)) (mm_nc (yne hJ (by decide) (by decide) (by decide)) (mm_nc (yne hJ (by decide) (by decide) (by decide)) (mm_nc (yne hJ (by decide) (by decide) (by decide)) (mm_nc (yne hJ (by decide) (by decide) (by decide)) (mm_nc (yne hJ (by decide) (by decide) (by decide)) mm_n0))))))
              have h4 := ff.at h4 (mm_nc (yne hJ (by decide) (by decide) (by decide)) (mm_nc (yne hJ (by decide) (by decide) (by decide)) (mm_nc (yne hJ (by decide) (by decide) (by decide)) (mm_nc (yne hJ (by decide) (by decide) (by decide)) (mm_nc (yne hJ (by decide) (by decide) (by decide)) (mm_nc (yne hJ (by decide) (by decide) (by decide)) mm_n0))))))
              have h5 := ff.at h5 (mm_nc (yne hJ (by decide) (by decide) (by decide)) (mm_nc (yne hJ (by decide) (by decide) (by decide)) (mm_nc (yne hJ (by decide) (by decide) (by decide)) (mm_nc (yne hJ (by decide) (by decide) (by decide)) (mm_nc (yne hJ (by decide) (by decide) (by decide)) (mm_nc (yne hJ (by decide) (by decide) (by decide)) mm_n0))))))
              have h6 := ff.at h6 (mm_nc (yne hJ (by decide) (by decide) (by decide)) (mm_nc (yne hJ (by decide) (by decide) (by decide)) (mm_nc (yne hJ (by decide) (by decide) (by decide)) (mm_nc (yne hJ (by decide) (by decide) (by decide)) (mm_nc (yne hJ (by decide) (by decide) (by decide)) (mm_nc (yne hJ (by decide) (by decide) (by decide)) mm_n0))))))
              have h7 := ff.at h7 (mm_nc (yne hJ (by decide) (by decide) (by decide)) (mm_nc (yne hJ (by decide) (by decide) (by decide)) (mm_nc (yne hJ (by decide) (by decide) (by decide)) (mm_nc (yne hJ (by decide) (by decide) (by decide)) (mm_nc (yne hJ (by decide) (by decide) (by decide)) (mm_nc (yne hJ (by decide) (by decide) (by decide)) mm_n0))))))
              have h16 := ff.at h16 (mm_nc (yne hJ (by decide) (by decide) (by decide)) (mm_nc (yne hJ (by decide) (by decide) (by decide)) (mm_nc (yne hJ (by decide) (by decide) (by decide)) (mm_nc (yne hJ (by decide) (by decide) (by decide)) (mm_nc (yne hJ (by decide) (by decide) (by decide)) (mm_nc (yne hJ (by decide) (by decide) (by decide)) mm_n0))))))
              have h0 : M33 (md 0) = some (ob 10 [.ref (md 1), .ref (md 2), .ref (md 3), .ref (md 4), .ref (md 5), .ref (md 6), .int v6, .ref (md 7), .ref (md 8), .int v9, .ref (md 9), .int v11, .int v12, .int v13, .ref (md 10), .int (nI 0), .ref (md 11), .ref (md 12), .ref (md 13), .ref (md 14), .ref (md 15), .ref (md 16), .int v22]) := hS.1
              have h10 : M33 (md 10) = some (ia G 256 fb) := hS.2.1
              have h11 : M33 (md 11) = some (ia G 32 db) := hS.2.2.1
              have h15 : M33 (md 15) = some (ia G 512 tb) := h15
              have hF := hF.tr ff (mm_ic 0 rfl (mm_ic 1 rfl (mm_ic 2 rfl (mm_ic 4 rfl (mm_ic 5 rfl (mm_ic 8 rfl mm_i0))))))
              refine lv_aload_n hx hb dX9_advance_165 rfl (lv_at hl 0 rfl) ?_
              refine lv_iload_n hx hb dX9_advance_166 rfl (lv_at hl 1 rfl) ?_
              refine mm_callv hA hR (va_runV (As := [.int (nI cc)]) (rest := []) S (c_X9_sign l G M33 _ md _ _ _ _ _ _ _ _ _ cc r2 tb p h4 h15 h16 hJ hS hc4 ha2 (fun k hk => by rw [hT k hk]; exact byt_root _ _ _)) (cwV 1 S.2.2.2.2 gX9_advance_X9_sign rfl rfl rfl (by decide +kernel) ⟨Nat.le_of_ble_eq_true rfl, Nat.le_of_ble_eq_true rfl⟩) (mm_preV hC hA hR _ h0 rfl) rfl rfl hl.1 rfl (lv_room (Nat.le_of_ble_eq_true rfl)) dX9_advance_167 ⟨Nat.le_of_ble_eq_true rfl, Nat.le_of_ble_eq_true rfl⟩) (fun M35 H locs hp hR => ?_)
              obtain ⟨fd, dd, r3, pb, hS, h4, h16, hq1, hq2, ff⟩ := hp
              have h3 := ff.at h3 (mm_nc (yne hJ (by decide) (by decide) (by decide)) (mm_nc (yne hJ (by decide) (by decide) (by decide)) (mm_nc (yne hJ (by decide) (by decide) (by decide)) (mm_nc (yne hJ (by decide) (by decide) (by decide)) (mm_nc (yne hJ (by decide) (by decide) (by decide)) (mm_nc (yne hJ (by decide) (by decide) (by decide)) (mm_nc (yne hJ (by decide) (by decide) (by decide)) (mm_nc (yne hJ (by decide) (by decide) (by decide)) mm_n0))))))))
              have h5 := ff.at h5 (mm_nc (yne hJ (by decide) (by decide) (by decide)) (mm_nc (yne hJ (by decide) (by decide) (by decide)) (mm_nc (yne hJ (by decide) (by decide) (by decide)) (mm_nc (yne hJ (by decide) (by decide) (by decide)) (mm_nc (yne hJ (by decide) (by decide) (by decide)) (mm_nc (yne hJ (by decide) (by decide) (by decide)) (mm_nc (yne hJ (by decide) (by decide) (by decide)) (mm_nc (yne hJ (by decide) (by decide) (by decide)) mm_n0))))))))
              have h6 := ff.at h6 (mm_nc (yne hJ (by decide) (by decide) (by decide)) (mm_nc (yne hJ (by decide) (by decide) (by decide)) (mm_nc (yne hJ (by decide) (by decide) (by decide)) (mm_nc (yne hJ (by decide) (by decide) (by decide)) (mm_nc (yne hJ (by decide) (by decide) (by decide)) (mm_nc (yne hJ (by decide) (by decide) (by decide)) (mm_nc (yne hJ (by decide) (by decide) (by decide)) (mm_nc (yne hJ (by decide) (by decide) (by decide)) mm_n0))))))))
              have h7 := ff.at h7 (mm_nc (yne hJ (by decide) (by decide) (by decide)) (mm_nc (yne hJ (by decide) (by decide) (by decide)) (mm_nc (yne hJ (by decide) (by decide) (by decide)) (mm_nc (yne hJ (by decide) (by decide) (by decide)) (mm_nc (yne hJ (by decide) (by decide) (by decide)) (mm_nc (yne hJ (by decide) (by decide) (by decide)) (mm_nc (yne hJ (by decide) (by decide) (by decide)) (mm_nc (yne hJ (by decide) (by decide) (by decide)) mm_n0))))))))
              have h15 := ff.at h15 (mm_nc (yne hJ (by decide) (by decide) (by decide)) (mm_nc (yne hJ (by decide) (by decide) (by decide)) (mm_nc (yne hJ (by decide) (by decide) (by decide)) (mm_nc (yne hJ (by decide) (by decide) (by decide)) (mm_nc (yne hJ (by decide) (by decide) (by decide)) (mm_nc (yne hJ (by decide) (by decide) (by decide)) (mm_nc (yne hJ (by decide) (by decide) (by decide)) (mm_nc (yne hJ (by decide) (by decide) (by decide)) mm_n0))))))))
              have h0 : M35 (md 0) = some (ob 10 [.ref (md 1), .ref (md 2), .ref (md 3), .ref (md 4), .ref (md 5), .ref (md 6), .int v6, .ref (md 7), .ref (md 8), .int v9, .ref (md 9), .int v11, .int v12, .int v13, .ref (md 10), .int (nI 0), .ref (md 11), .ref (md 12), .ref (md 13), .ref (md 14), .ref (md 15), .ref (md 16), .int (nI 52)]) := hS.1
              have h10 : M35 (md 10) = some (ia G 256 fd) := hS.2.1
              have h11 : M35 (md 11) = some (ia G 32 dd) := hS.2.2.1
              have h4 : M35 (md 4) = some (ia G 336 r3) := h4
              have h16 : M35 (md 16) = some (ia G 64 pb) := h16
              have hF := hF.tr ff (mm_ic 0 rfl (mm_ic 1 rfl (mm_ic 2 rfl (mm_ic 3 rfl (mm_ic 4 rfl (mm_ic 5 rfl (mm_ic 7 rfl (mm_ic 9 rfl mm_i0))))))))
              refine lv_aload_n hx hb dX9_advance_170 rfl (lv_at hl 0 rfl) ?_
              refine lv_iload_n hx hb dX9_advance_171 rfl (lv_at hl 2 rfl) ?_
              refine lv_iload_n hx hb dX9_advance_172 rfl (lv_at hl 1 rfl) ?_
              refine mm_callv hA hR (va_runV (As := [.int (nI jj), .int (nI cc)]) (rest := []) S (c_X9_tell l G M35 _ md _ _ _ _ _ _ _ _ _ jj cc ss r3 h3 h4 hJ hS hj6 hc4) (cwV 2 S.2.2.2.2 gX9_advance_X9_tell rfl rfl rfl (by decide +kernel) ⟨Nat.le_of_ble_eq_true rfl, Nat.le_of_ble_eq_true rfl⟩) (mm_preV hC hA hR _ h0 rfl) rfl rfl hl.1 rfl (lv_room (Nat.le_of_ble_eq_true rfl)) dX9_advance_173 ⟨Nat.le_of_ble_eq_true rfl, Nat.le_of_ble_eq_true rfl⟩) (fun M37 H locs hp hR => ?_)
              obtain ⟨h3, ff⟩ := hp
              have h4 := ff.at h4 (mm_nc (yne hJ (by decide) (by decide) (by decide)) mm_n0)
              have h5 := ff.at h5 (mm_nc (yne hJ (by decide) (by decide) (by decide)) mm_n0)
              have h6 := ff.at h6 (mm_nc (yne hJ (by decide) (by decide) (by decide)) mm_n0)
              have h7 := ff.at h7 (mm_nc (yne hJ (by decide) (by decide) (by decide)) mm_n0)
              have h15 := ff.at h15 (mm_nc (yne hJ (by decide) (by decide) (by decide)) mm_n0)
              have h16 := ff.at h16 (mm_nc (yne hJ (by decide) (by decide) (by decide)) mm_n0)
              have h0 := ff.at h0 (mm_nc (yne hJ (by decide) (by decide) (by decide)) mm_n0)
              have h10 := ff.at h10 (mm_nc (yne hJ (by decide) (by decide) (by decide)) mm_n0)
              have h11 := ff.at h11 (mm_nc (yne hJ (by decide) (by decide) (by decide)) mm_n0)
              have h3 : M37 (md 3) = some (ia G 2016 (va_cpy r3 ss (84 * cc) (84 * (4 * jj + cc)) 84)) := h3
              have hF := hF.tr ff (mm_ic 6 rfl mm_i0)
              have hS := hS.out ff (mm_nc (yne hJ (by decide) (by decide) (by decide)) mm_n0) (mm_nc (yne hJ (by decide) (by decide) (by decide)) mm_n0) (mm_nc (yne hJ (by decide) (by decide) (by decide)) mm_n0) (mm_nc (yne hJ (by decide) (by decide) (by decide)) mm_n0) (mm_nc (yne hJ (by decide) (by decide) (by decide)) mm_n0) (mm_nc (yne hJ (by decide) (by decide) (by decide)) mm_n0) (mm_nc (yne hJ (by decide) (by decide) (by decide)) mm_n0) (mm_nc (yne hJ (by decide) (by decide) (by decide)) mm_n0)
              refine lv_aload_n hx hb dX9_advance_176 rfl (lv_at hl 0 rfl) ?_
              refine lv_dup hx hb dX9_advance_177 rfl ?_
              refine mm_get S hC hR (C := RX9) (T := TX9) (N := 23) (ref := "ForkWatchModel") (v := .int v12) 12 h0 inRX9 rfl (by decide) (by decide +kernel) (fun _ h9 => h9) rfl dX9_advance_178 ?_
              refine lv_iconst (v := nI 1) hx hb dX9_advance_181 (by decide) ?_
              refine lv_iadd hx hb dX9_advance_182 ?_
              refine mm_put S hC hR (C := RX9) (T := TX9) (N := 23) (ref := "ForkWatchModel") 12 h0 inRX9 rfl tyX9_ok nmX9 (by decide) (by decide +kernel) (fun _ h9 => h9) rfl rfl rfl (Nat.le_of_ble_eq_true rfl) dX9_advance_183 (fun H locs M38 g40 f39 hR => ?_)
              have h3 := f39.at h3 (mm_nc (yne hJ (by decide) (by decide) (by decide)) mm_n0)
              have h4 := f39.at h4 (mm_nc (yne hJ (by decide) (by decide) (by decide)) mm_n0)
              have h5 := f39.at h5 (mm_nc (yne hJ (by decide) (by decide) (by decide)) mm_n0)
              have h6 := f39.at h6 (mm_nc (yne hJ (by decide) (by decide) (by decide)) mm_n0)
              have h7 := f39.at h7 (mm_nc (yne hJ (by decide) (by decide) (by decide)) mm_n0)
              have h15 := f39.at h15 (mm_nc (yne hJ (by decide) (by decide) (by decide)) mm_n0)
              have h16 := f39.at h16 (mm_nc (yne hJ (by decide) (by decide) (by decide)) mm_n0)
              have h10 := f39.at h10 (mm_nc (yne hJ (by decide) (by decide) (by decide)) mm_n0)
              have h11 := f39.at h11 (mm_nc (yne hJ (by decide) (by decide) (by decide)) mm_n0)
              have h0 : M38 (md 0) = some (ob 10 [.ref (md 1), .ref (md 2), .ref (md 3), .ref (md 4), .ref (md 5), .ref (md 6), .int v6, .ref (md 7), .ref (md 8), .int v9, .ref (md 9), .int v11, .int (v12 + (nI 1)), .int v13, .ref (md 10), .int (nI 0), .ref (md 11), .ref (md 12), .ref (md 13), .ref (md 14), .ref (md 15), .ref (md 16), .int (nI 52)]) := g40
              have hF := hF.tr f39 (mm_ic 0 rfl mm_i0)
              have hS := hS.ob hJ f39 h0
              have hz1 : ∀ i, i < 84 → r3 (84 * cc + i) = nst st (shf rr0 (84 * cc)) (rtn (fun x => fs (192 * jj + x)) ln) cc i := fun i hi => by
                rw [hq1 i hi]
                exact sgn_ag (fun j hj => by rw [rtn_at, ← hT j hj]; congr 1; omega) (fun k hk => by rw [ha k hk, eg]; exact adv_ms (fun j hj => by rw [← eg, ← hss]; exact hbs g hg4 j (by omega)) hc4 k hk) i hi
              have hz2 : ∀ i, i < 84 * cc ∨ 84 * cc + 84 ≤ i → r3 i = rr0 i := fun i hi => by rw [hq2 i hi, er2, av_out 4 _ (by omega), hr1o _ (by omega)]
              exact mm_vret S hr hlocks hR (by rw [← est]; exact ⟨_, _, _, _, _, _, hS, h3, h4, h15, h16, hz1, hz2, hF⟩) dX9_advance_186
            · have c31 : ¬ (4 ≤ i) := fun z => c31 ((nI_leI (a := 4) (b := i) (by omega) (by omega)).mpr z)
              refine lv_aload_n hx hb dX9_advance_129 rfl (lv_at hl 0 rfl) ?_
              refine mm_get S hC hR (C := RX9) (T := TX9) (N := 23) (ref := "ForkWatchModel") (v := .ref (md 4)) 3 h0 inRX9 rfl (by decide) (by decide +kernel) (fun _ h9 => h9) rfl dX9_advance_130 ?_
              refine lv_iload hx hb dX9_advance_133 (lv_at hl 4 rfl) ?_
              refine lv_iload hx hb dX9_advance_135 (lv_at hl 6 rfl) ?_
              refine lv_iadd hx hb dX9_advance_137 ?_
              refine mm_eqi (nI_add _ _) ?_
              refine lv_iload hx hb dX9_advance_138 (lv_at hl 5 rfl) ?_
              refine lv_bipush (v := nI 24) hx hb dX9_advance_140 (by decide) ?_
              refine lv_bipush (v := nI 8) hx hb dX9_advance_142 (by decide) ?_
              refine lv_iload hx hb dX9_advance_144 (lv_at hl 6 rfl) ?_
              refine lv_imul hx hb dX9_advance_146 ?_
              refine mm_eqi (pk_mul _ _) ?_
              refine lv_isub hx hb dX9_advance_147 ?_
              refine mm_eqi (pk_sub (by omega)) ?_
              refine lv_ishr hx hb dX9_advance_148 ?_
              refine lv_sipush (v := nI 255) hx hb dX9_advance_149 (by decide) ?_
              refine lv_iand hx hb dX9_advance_152 ?_
              refine mm_iast S hC hR h4 (j := (at_ + i)) (by omega) (by omega) dX9_advance_153 (fun H locs M41 g43 f42 hR => ?_)
              have h3 := f42.at h3 (mm_nc (yne hJ (by decide) (by decide) (by decide)) mm_n0)
              have h5 := f42.at h5 (mm_nc (yne hJ (by decide) (by decide) (by decide)) mm_n0)
              have h6 := f42.at h6 (mm_nc (yne hJ (by decide) (by decide) (by decide)) mm_n0)
              have h7 := f42.at h7 (mm_nc (yne hJ (by decide) (by decide) (by decide)) mm_n0)
              have h15 := f42.at h15 (mm_nc (yne hJ (by decide) (by decide) (by decide)) mm_n0)
              have h16 := f42.at h16 (mm_nc (yne hJ (by decide) (by decide) (by decide)) mm_n0)
              have h0 := f42.at h0 (mm_nc (yne hJ (by decide) (by decide) (by decide)) mm_n0)
              have h10 := f42.at h10 (mm_nc (yne hJ (by decide) (by decide) (by decide)) mm_n0)
              have h11 := f42.at h11 (mm_nc (yne hJ (by decide) (by decide) (by decide)) mm_n0)
              have h4 : M41 (md 4) = some (ia G 336 (upd (av_go r1 x30 at_ i) (at_ + i) ((x30 >>> ((nI (24 - (8 * i))) &&& 31)) &&& (nI 255)))) := g43
              have hF := hF.tr f42 (mm_ic 7 rfl mm_i0)
              have hS := hS.out f42 (mm_nc (yne hJ (by decide) (by decide) (by decide)) mm_n0) (mm_nc (yne hJ (by decide) (by decide) (by decide)) mm_n0) (mm_nc (yne hJ (by decide) (by decide) (by decide)) mm_n0) (mm_nc (yne hJ (by decide) (by decide) (by decide)) mm_n0) (mm_nc (yne hJ (by decide) (by decide) (by decide)) mm_n0) (mm_nc (yne hJ (by decide) (by decide) (by decide)) mm_n0) (mm_nc (yne hJ (by decide) (by decide) (by decide)) mm_n0) (mm_nc (yne hJ (by decide) (by decide) (by decide)) mm_n0)
              refine lv_iinc (v := (nI (i + 1))) (lv' := [(6, .int (nI (i + 1))), (0, .ref (md 0)), (1, .int (nI cc)), (2, .int (nI jj)), (3, .int (nI pl)), (4, .int (nI at_)), (5, .int x30)]) hx hb dX9_advance_154 hl (k := 6) rfl (by rw [show Int32.ofInt 1 = nI 1 from by decide]; exact nI_add _ _) (by decide) rfl (fun ls hl => ?_)
              refine lv_goto (tgt := 123) hx hb dX9_advance_157 (by decide) ?_
              exact ih (i + 1)  _ H locs ls (by omega) (by omega) hS h3 (cellE h4 rfl) h5 h6 h7 h15 h16 hF hR (lv_sub hl [1, 2, 3, 4, 5, 6, 0] rfl)
        exact loopB (4 + 1) 0  _ _ _ ls (by omega) (by omega) hS h3 h4 h5 h6 h7 h15 h16 hF hR (lv_sub hl [3, 4, 5, 6, 2, 1, 0] rfl)
      · have c28 : ¬ (20 ≤ 4 + i) := fun z => c28 ((nI_leI (a := 20) (b := 4 + i) (by omega) (by omega)).mpr z)
        refine lv_aload_n hx hb dX9_advance_27 rfl (lv_at hl 0 rfl) ?_
        refine mm_get S hC hR (C := RX9) (T := TX9) (N := 23) (ref := "ForkWatchModel") (v := .ref (md 4)) 3 h0 inRX9 rfl (by decide) (by decide +kernel) (fun _ h9 => h9) rfl dX9_advance_28 ?_
        refine lv_bipush (v := nI 84) hx hb dX9_advance_31 (by decide) ?_
        refine lv_iload_n hx hb dX9_advance_33 rfl (lv_at hl 1 rfl) ?_
        refine lv_imul hx hb dX9_advance_34 ?_
        refine mm_eqi (pk_mul _ _) ?_
        refine lv_iload hx hb dX9_advance_35 (lv_at hl 4 rfl) ?_
        refine lv_iadd hx hb dX9_advance_37 ?_
        refine mm_eqi (nI_add _ _) ?_
        refine mm_eqi (congrArg nI (show 84 * cc + (4 + i) = 84 * cc + 4 + i by omega)) ?_
        refine lv_aload_n hx hb dX9_advance_38 rfl (lv_at hl 0 rfl) ?_
        refine mm_get S hC hR (C := RX9) (T := TX9) (N := 23) (ref := "ForkWatchModel") (v := .ref (md 3)) 2 h0 inRX9 rfl (by decide) (by decide +kernel) (fun _ h9 => h9) rfl dX9_advance_39 ?_
        refine lv_iload_n hx hb dX9_advance_42 rfl (lv_at hl 3 rfl) ?_
        refine lv_iload hx hb dX9_advance_43 (lv_at hl 4 rfl) ?_
        refine lv_iadd hx hb dX9_advance_45 ?_
        refine mm_eqi (nI_add _ _) ?_
        refine mm_eqi (congrArg nI (show pl + (4 + i) = pl + 4 + i by omega)) ?_
        refine mm_iald S hC hR h3 (j := (pl + 4 + i)) (by omega) (by omega) dX9_advance_46 ?_
        refine mm_iast S hC hR h4 (j := (84 * cc + 4 + i)) (by omega) (by omega) dX9_advance_47 (fun H locs M44 g46 f45 hR => ?_)
        have h3 := f45.at h3 (mm_nc (yne hJ (by decide) (by decide) (by decide)) mm_n0)
        have h5 := f45.at h5 (mm_nc (yne hJ (by decide) (by decide) (by decide)) mm_n0)
        have h6 := f45.at h6 (mm_nc (yne hJ (by decide) (by decide) (by decide)) mm_n0)
        have h7 := f45.at h7 (mm_nc (yne hJ (by decide) (by decide) (by decide)) mm_n0)
        have h15 := f45.at h15 (mm_nc (yne hJ (by decide) (by decide) (by decide)) mm_n0)
        have h16 := f45.at h16 (mm_nc (yne hJ (by decide) (by decide) (by decide)) mm_n0)
        have h0 := f45.at h0 (mm_nc (yne hJ (by decide) (by decide) (by decide)) mm_n0)
        have h10 := f45.at h10 (mm_nc (yne hJ (by decide) (by decide) (by decide)) mm_n0)
        have h11 := f45.at h11 (mm_nc (yne hJ (by decide) (by decide) (by decide)) mm_n0)
        have h4 : M44 (md 4) = some (ia G 336 (upd (va_cpy ss rr0 (pl + 4) (84 * cc + 4) i) (84 * cc + 4 + i) (ss (pl + 4 + i)))) := g46
        have hF := hF.tr f45 (mm_ic 7 rfl mm_i0)
        have hS := hS.out f45 (mm_nc (yne hJ (by decide) (by decide) (by decide)) mm_n0) (mm_nc (yne hJ (by decide) (by decide) (by decide)) mm_n0) (mm_nc (yne hJ (by decide) (by decide) (by decide)) mm_n0) (mm_nc (yne hJ (by decide) (by decide) (by decide)) mm_n0) (mm_nc (yne hJ (by decide) (by decide) (by decide)) mm_n0) (mm_nc (yne hJ (by decide) (by decide) (by decide)) mm_n0) (mm_nc (yne hJ (by decide) (by decide) (by decide)) mm_n0) (mm_nc (yne hJ (by decide) (by decide) (by decide)) mm_n0)
        refine lv_iinc (v := (nI (4 + i + 1))) (lv' := [(4, .int (nI (4 + i + 1))), (0, .ref (md 0)), (1, .int (nI cc)), (2, .int (nI jj)), (3, .int (nI pl))]) hx hb dX9_advance_48 hl (k := 4) rfl (by rw [show Int32.ofInt 1 = nI 1 from by decide]; exact nI_add _ _) (by decide) rfl (fun ls hl => ?_)
        refine lv_goto (tgt := 20) hx hb dX9_advance_51 (by decide) ?_
        exact ih (i + 1)  _ H locs ls (by omega) (by omega) hS h3 (cellE h4 (cpy_s rfl)) h5 h6 h7 h15 h16 hF hR (lv_sub hl [1, 2, 3, 4, 0] rfl)
  exact loopA (16 + 1) 0  _ _ _ ls (by omega) (by omega) hS h3 (cellE h4 cpy_0.symm) h5 h6 h7 h15 h16 hF hR (lv_sub hl [3, 4, 2, 1, 0] rfl)
