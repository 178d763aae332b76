set_option maxHeartbeats 4000000 in
set_option maxRecDepth 100000 in
/-- mix(): 64 turns over the state -/
theorem c_X4_mix (l : Launch) (G : mm_G) (M : mm_M) (sz : Nat) (h st w : Nat) (a b : Int32) (f g : Nat → Int32) (h1 : M h = some (ob 5 [.ref st, .ref w, .int a, .int b])) (h2 : M st = some (ia G 8 f)) (h3 : M w = some (ia G 64 g))  : mm_v l yX4_mix wsX4_mix ({ frames := 0, cells := 0, slots := 0, locals := 0 } : Room) G ([.ref h] : List Value) M sz (fun M' => M' st = some (ia G 8 (mx f g)) ∧ mm_fr [st] M M') := by
  refine mm_enter (cc := cX4_mix) (maxL := 15) (ret := none) _ (by decide) rfl (Nat.le_of_ble_eq_true rfl) ?_
  intro p e s m below meth c ls S hr hlocks hname hA hC hR hl
  have hx := S.1
  have hb := S.2.1
  have hl : lv_has ls 15 [(0, .ref h)] := hl
  have inRX4 : ∀ w ∈ wsX40, w ∈ wsX4_mix := by decide +kernel
  have hF : mm_fr [st] M M := mm_fr.rf
  refine lv_aload_n hx hb dX4_mix_0 rfl (lv_at hl 0 rfl) ?_
  refine mm_get S hC hR (C := RX4) (T := TX4) (N := 4) (ref := "ForkWatch$Sha256") (v := .ref st) 0 h1 inRX4 rfl (by decide) (by decide +kernel) (fun _ h9 => h9) rfl dX4_mix_1 ?_
  refine lv_iconst (v := nI 0) hx hb dX4_mix_4 (by decide) ?_
  refine mm_iald S hC hR h2 (j := 0) (by omega) (by omega) dX4_mix_5 ?_
  refine lv_topi (fun x1 ex1 => ?_)
  refine lv_istore_n (lv' := [(1, .int x1), (0, .ref h)]) hx hb dX4_mix_6 rfl hl (by decide) rfl (fun ls hl => ?_)
  refine lv_aload_n hx hb dX4_mix_7 rfl (lv_at hl 1 rfl) ?_
  refine mm_get S hC hR (C := RX4) (T := TX4) (N := 4) (ref := "ForkWatch$Sha256") (v := .ref st) 0 h1 inRX4 rfl (by decide) (by decide +kernel) (fun _ h9 => h9) rfl dX4_mix_8 ?_
  refine lv_iconst (v := nI 1) hx hb dX4_mix_11 (by decide) ?_
  refine mm_iald S hC hR h2 (j := 1) (by omega) (by omega) dX4_mix_12 ?_
  refine lv_topi (fun x2 ex2 => ?_)
  refine lv_istore_n (lv' := [(2, .int x2), (1, .int x1), (0, .ref h)]) hx hb dX4_mix_13 rfl hl (by decide) rfl (fun ls hl => ?_)
  refine lv_aload_n hx hb dX4_mix_14 rfl (lv_at hl 2 rfl) ?_
  refine mm_get S hC hR (C := RX4) (T := TX4) (N := 4) (ref := "ForkWatch$Sha256") (v := .ref st) 0 h1 inRX4 rfl (by decide) (by decide +kernel) (fun _ h9 => h9) rfl dX4_mix_15 ?_
  refine lv_iconst (v := nI 2) hx hb dX4_mix_18 (by decide) ?_
  refine mm_iald S hC hR h2 (j := 2) (by omega) (by omega) dX4_mix_19 ?_
  refine lv_topi (fun x3 ex3 => ?_)
  refine lv_istore_n (lv' := [(3, .int x3), (2, .int x2), (1, .int x1), (0, .ref h)]) hx hb dX4_mix_20 rfl hl (by decide) rfl (fun ls hl => ?_)
  refine lv_aload_n hx hb dX4_mix_21 rfl (lv_at hl 3 rfl) ?_
  refine mm_get S hC hR (C := RX4) (T := TX4) (N := 4) (ref := "ForkWatch$Sha256") (v := .ref st) 0 h1 inRX4 rfl (by decide) (by decide +kernel) (fun _ h9 => h9) rfl dX4_mix_22 ?_
  refine lv_iconst (v := nI 3) hx hb dX4_mix_25 (by decide) ?_
  refine mm_iald S hC hR h2 (j := 3) (by omega) (by omega) dX4_mix_26 ?_
  refine lv_topi (fun x4 ex4 => ?_)
  refine lv_istore (lv' := [(4, .int x4), (3, .int x3), (2, .int x2), (1, .int x1), (0, .ref h)]) hx hb dX4_mix_27 hl (by decide) rfl (fun ls hl => ?_)
  refine lv_aload_n hx hb dX4_mix_29 rfl (lv_at hl 4 rfl) ?_
  refine mm_get S hC hR (C := RX4) (T := TX4) (N := 4) (ref := "ForkWatch$Sha256") (v := .ref st) 0 h1 inRX4 rfl (by decide) (by decide +kernel) (fun _ h9 => h9) rfl dX4_mix_30 ?_
  refine lv_iconst (v := nI 4) hx hb dX4_mix_33 (by decide) ?_
  refine mm_iald S hC hR h2 (j := 4) (by omega) (by omega) dX4_mix_34 ?_
  refine lv_topi (fun x5 ex5 => ?_)
  refine lv_istore (lv' := [(5, .int x5), (4, .int x4), (3, .int x3), (2, .int x2), (1, .int x1), (0, .ref h)]) hx hb dX4_mix_35 hl (by decide) rfl (fun ls hl => ?_)
  refine lv_aload_n hx hb dX4_mix_37 rfl (lv_at hl 5 rfl) ?_
  refine mm_get S hC hR (C := RX4) (T := TX4) (N := 4) (ref := "ForkWatch$Sha256") (v := .ref st) 0 h1 inRX4 rfl (by decide) (by decide +kernel) (fun _ h9 => h9) rfl dX4_mix_38 ?_
  refine lv_iconst (v := nI 5) hx hb dX4_mix_41 (by decide) ?_
  refine mm_iald S hC hR h2 (j := 5) (by omega) (by omega) dX4_mix_42 ?_
  refine lv_topi (fun x6 ex6 => ?_)
  refine lv_istore (lv' := [(6, .int x6), (5, .int x5), (4, .int x4), (3, .int x3), (2, .int x2), (1, .int x1), (0, .ref h)]) hx hb dX4_mix_43 hl (by decide) rfl (fun ls hl => ?_)
  refine lv_aload_n hx hb dX4_mix_45 rfl (lv_at hl 6 rfl) ?_
  refine mm_get S hC hR (C := RX4) (T := TX4) (N := 4) (ref := "ForkWatch$Sha256") (v := .ref st) 0 h1 inRX4 rfl (by decide) (by decide +kernel) (fun _ h9 => h9) rfl dX4_mix_46 ?_
  refine lv_bipush (v := nI 6) hx hb dX4_mix_49 (by decide) ?_
  refine mm_iald S hC hR h2 (j := 6) (by omega) (by omega) dX4_mix_51 ?_
  refine lv_topi (fun x7 ex7 => ?_)
  refine lv_istore (lv' := [(7, .int x7), (6, .int x6), (5, .int x5), (4, .int x4), (3, .int x3), (2, .int x2), (1, .int x1), (0, .ref h)]) hx hb dX4_mix_52 hl (by decide) rfl (fun ls hl => ?_)
  refine lv_aload_n hx hb dX4_mix_54 rfl (lv_at hl 7 rfl) ?_
  refine mm_get S hC hR (C := RX4) (T := TX4) (N := 4) (ref := "ForkWatch$Sha256") (v := .ref st) 0 h1 inRX4 rfl (by decide) (by decide +kernel) (fun _ h9 => h9) rfl dX4_mix_55 ?_
  refine lv_bipush (v := nI 7) hx hb dX4_mix_58 (by decide) ?_
  refine mm_iald S hC hR h2 (j := 7) (by omega) (by omega) dX4_mix_60 ?_
  refine lv_topi (fun x8 ex8 => ?_)
  refine lv_istore (lv' := [(8, .int x8), (7, .int x7), (6, .int x6), (5, .int x5), (4, .int x4), (3, .int x3), (2, .int x2), (1, .int x1), (0, .ref h)]) hx hb dX4_mix_61 hl (by decide) rfl (fun ls hl => ?_)
  refine lv_iconst (v := nI 0) hx hb dX4_mix_63 (by decide) ?_
  refine lv_istore (lv' := [(9, .int (nI 0)), (8, .int x8), (7, .int x7), (6, .int x6), (5, .int x5), (4, .int x4), (3, .int x3), (2, .int x2), (1, .int x1), (0, .ref h)]) hx hb dX4_mix_64 hl (by decide) rfl (fun ls hl => ?_)
  have loop : ∀ (n i : Nat) (ra rb rc rd re rf rg rh : Int32) (ls : Array Slot), 64 < i + n → i ≤ 64 → ra = mx_go f g i 0 → rb = mx_go f g i 1 → rc = mx_go f g i 2 → rd = mx_go f g i 3 → re = mx_go f g i 4 → rf = mx_go f g i 5 → rg = mx_go f g i 6 → rh = mx_go f g i 7 → lv_has ls 15 [(0, .ref h), (1, .int ra), (2, .int rb), (3, .int rc), (4, .int rd), (5, .int re), (6, .int rf), (7, .int rg), (8, .int rh), (9, .int (nI i))] → W p l e ({ frames := 0, cells := 0, slots := 0, locals := 0 } : Room) s m ([.ref h] : List Value).toArray below meth c s.heap [] 0 0 (MQ below (va_Qv (fun M' => M' st = some (ia G 8 (mx f g)) ∧ mm_fr [st] M M') (fun M' t => mm_H G (mm_A M sz) M' t.heap) (mm_A M sz)) ([.ref h] : List Value).toArray s 0 0 (mm_A M sz)) (F0 m 66 ls []) := by
    intro n
    induction n with
    | zero =>
      intro i ra rb rc rd re rf rg rh ls hn hi
      omega
    | succ n ih =>
      intro i ra rb rc rd re rf rg rh ls hn hi Era Erb Erc Erd Ere Erf Erg Erh hl
      refine lv_iload hx hb dX4_mix_66 (lv_at hl 9 rfl) ?_
      refine lv_bipush (v := nI 64) hx hb dX4_mix_68 (by decide) ?_
      refine lv_icmp_ge (tgt := 234) hx hb dX4_mix_70 (by decide) (fun c9 => ?_) (fun c9 => ?_)
      · have c9 : 64 ≤ i := (nI_leI (by omega) (by omega)).mp c9
        have e4 : i = 64 := by omega
        subst e4
        refine lv_aload_n hx hb dX4_mix_234 rfl (lv_at hl 0 rfl) ?_
        refine mm_get S hC hR (C := RX4) (T := TX4) (N := 4) (ref := "ForkWatch$Sha256") (v := .ref st) 0 h1 inRX4 rfl (by decide) (by decide +kernel) (fun _ h9 => h9) rfl dX4_mix_235 ?_
        refine lv_iconst (v := nI 0) hx hb dX4_mix_238 (by decide) ?_
        refine lv_dup2_11 hx hb dX4_mix_239 rfl rfl ?_
        refine mm_iald S hC hR h2 (j := 0) (by omega) (by omega) dX4_mix_240 ?_
        refine lv_iload_n hx hb dX4_mix_241 rfl (lv_at hl 1 rfl) ?_
        refine lv_iadd hx hb dX4_mix_242 ?_
        refine mm_iast S hC hR h2 (j := 0) (by omega) (by omega) dX4_mix_243 (fun H locs M10 g12 f11 hR => ?_)
        have h1 := f11.at h1 (mm_nc (mm_neoi h1 h2) mm_n0)
        have h3 := f11.at h3 (mm_nc (mm_nelen h3 h2 (by decide)) mm_n0)
        have h2 : M10 st = some (ia G 8 (upd f 0 ((f 0) + ra))) := g12
        have hF := hF.tr f11 (mm_ic 0 rfl mm_i0)
        obtain ⟨fn13, efn13⟩ : ∃ z : Nat → Int32, z = upd f 0 ((f 0) + ra) := ⟨_, rfl⟩
        rw [← efn13] at h2
        refine lv_aload_n hx hb dX4_mix_244 rfl (lv_at hl 0 rfl) ?_
        refine mm_get S hC hR (C := RX4) (T := TX4) (N := 4) (ref := "ForkWatch$Sha256") (v := .ref st) 0 h1 inRX4 rfl (by decide) (by decide +kernel) (fun _ h9 => h9) rfl dX4_mix_245 ?_
        refine lv_iconst (v := nI 1) hx hb dX4_mix_248 (by decide) ?_
        refine lv_dup2_11 hx hb dX4_mix_249 rfl rfl ?_
        refine mm_iald S hC hR h2 (j := 1) (by omega) (by omega) dX4_mix_250 ?_
        refine lv_iload_n hx hb dX4_mix_251 rfl (lv_at hl 2 rfl) ?_
        refine lv_iadd hx hb dX4_mix_252 ?_
        refine mm_iast S hC hR h2 (j := 1) (by omega) (by omega) dX4_mix_253 (fun H locs M14 g16 f15 hR => ?_)
        have h1 := f15.at h1 (mm_nc (mm_neoi h1 h2) mm_n0)
        have h3 := f15.at h3 (mm_nc (mm_nelen h3 h2 (by decide)) mm_n0)
        have h2 : M14 st = some (ia G 8 (upd fn13 1 ((fn13 1) + rb))) := g16
        have hF := hF.tr f15 (mm_ic 0 rfl mm_i0)
        obtain ⟨fn17, efn17⟩ : ∃ z : Nat → Int32, z = upd fn13 1 ((fn13 1) + rb) := ⟨_, rfl⟩
        rw [← efn17] at h2
        refine lv_aload_n hx hb dX4_mix_254 rfl (lv_at hl 0 rfl) ?_
        refine mm_get S hC hR (C := RX4) (T := TX4) (N := 4) (ref := "ForkWatch$Sha256") (v := .ref st) 0 h1 inRX4 rfl (by decide) (by decide +kernel) (fun _ h9 => h9) rfl dX4_mix_255 ?_
        refine lv_iconst (v := nI 2) hx hb dX4_mix_258 (by decide) ?_
        refine lv_dup2_11 hx hb dX4_mix_259 rfl rfl ?_
        refine mm_iald S hC hR h2 (j := 2) (by omega) (by omega) dX4_mix_260 ?_
        refine lv_iload_n hx hb dX4_mix_261 rfl (lv_at hl 3 rfl) ?_
        refine lv_iadd hx hb dX4_mix_262 ?_
        refine mm_iast S hC hR h2 (j := 2) (by omega) (by omega) dX4_mix_263 (fun H locs M18 g20 f19 hR => ?_)
        have h1 := f19.at h1 (mm_nc (mm_neoi h1 h2) mm_n0)
        have h3 := f19.at h3 (mm_nc (mm_nelen h3 h2 (by decide)) mm_n0)
        have h2 : M18 st = some (ia G 8 (upd fn17 2 ((fn17 2) + rc))) := g20
        have hF := hF.tr f19 (mm_ic 0 rfl mm_i0)
        obtain ⟨fn21, efn21⟩ : ∃ z : Nat → Int32, z = upd fn17 2 ((fn17 2) + rc) := ⟨_, rfl⟩
        rw [← efn21] at h2
        refine lv_aload_n hx hb dX4_mix_264 rfl (lv_at hl 0 rfl) ?_
        refine mm_get S hC hR (C := RX4) (T := TX4) (N := 4) (ref := "ForkWatch$Sha256") (v := .ref st) 0 h1 inRX4 rfl (by decide) (by decide +kernel) (fun _ h9 => h9) rfl dX4_mix_265 ?_
        refine lv_iconst (v := nI 3) hx hb dX4_mix_268 (by decide) ?_
        refine lv_dup2_11 hx hb dX4_mix_269 rfl rfl ?_
        refine mm_iald S hC hR h2 (j := 3) (by omega) (by omega) dX4_mix_270 ?_
        refine lv_iload hx hb dX4_mix_271 (lv_at hl 4 rfl) ?_
        refine lv_iadd hx hb dX4_mix_273 ?_
        refine mm_iast S hC hR h2 (j := 3) (by omega) (by omega) dX4_mix_274 (fun H locs M22 g24 f23 hR => ?_)
        have h1 := f23.at h1 (mm_nc (mm_neoi h1 h2) mm_n0)
        have h3 := f23.at h3 (mm_nc (mm_nelen h3 h2 (by decide)) mm_n0)
        have h2 : M22 st = some (ia G 8 (upd fn21 3 ((fn21 3) + rd))) := g24
        have hF := hF.tr f23 (mm_ic 0 rfl mm_i0)
        obtain ⟨fn25, efn25⟩ : ∃ z : Nat → Int32, z = upd fn21 3 ((fn21 3) + rd) := ⟨_, rfl⟩
        rw [← efn25] at h2
        refine lv_aload_n hx hb dX4_mix_275 rfl (lv_at hl 0 rfl) ?_
        refine mm_get S hC hR (C := RX4) (T := TX4) (N := 4) (ref := "ForkWatch$Sha256") (v := .ref st) 0 h1 inRX4 rfl (by decide) (by decide +kernel) (fun _ h9 => h9) rfl dX4_mix_276 ?_
        refine lv_iconst (v := nI 4) hx hb dX4_mix_279 (by decide) ?_
        refine lv_dup2_11 hx hb dX4_mix_280 rfl rfl ?_
        refine mm_iald S hC hR h2 (j := 4) (by omega) (by omega) dX4_mix_281 ?_
        refine lv_iload hx hb dX4_mix_282 (lv_at hl 5 rfl) ?_
        refine lv_iadd hx hb dX4_mix_284 ?_
        refine mm_iast S hC hR h2 (j := 4) (by omega) (by omega) dX4_mix_285 (fun H locs M26 g28 f27 hR => ?_)
        have h1 := f27.at h1 (mm_nc (mm_neoi h1 h2) mm_n0)
        have h3 := f27.at h3 (mm_nc (mm_nelen h3 h2 (by decide)) mm_n0)
        have h2 : M26 st = some (ia G 8 (upd fn25 4 ((fn25 4) + re))) := g28
        have hF := hF.tr f27 (mm_ic 0 rfl mm_i0)
        obtain ⟨fn29, efn29⟩ : ∃ z : Nat → Int32, z = upd fn25 4 ((fn25 4) + re) := ⟨_, rfl⟩
        rw [← efn29] at h2
        refine lv_aload_n hx hb dX4_mix_286 rfl (lv_at hl 0 rfl) ?_
        refine mm_get S hC hR (C := RX4) (T := TX4) (N := 4) (ref := "ForkWatch$Sha256") (v := .ref st) 0 h1 inRX4 rfl (by decide) (by decide +kernel) (fun _ h9 => h9) rfl dX4_mix_287 ?_
        refine lv_iconst (v := nI 5) hx hb dX4_mix_290 (by decide) ?_
        refine lv_dup2_11 hx hb dX4_mix_291 rfl rfl ?_
        refine mm_iald S hC hR h2 (j := 5) (by omega) (by omega) dX4_mix_292 ?_
        refine lv_iload hx hb dX4_mix_293 (lv_at hl 6 rfl) ?_
        refine lv_iadd hx hb dX4_mix_295 ?_
        refine mm_iast S hC hR h2 (j := 5) (by omega) (by omega) dX4_mix_296 (fun H locs M30 g32 f31 hR => ?_)
        have h1 := f31.at h1 (mm_nc (mm_neoi h1 h2) mm_n0)
        have h3 := f31.at h3 (mm_nc (mm_nelen h3 h2 (by decide)) mm_n0)
        have h2 : M30 st = some (ia G 8 (upd fn29 5 ((fn29 5) + rf))) := g32
        have hF := hF.tr f31 (mm_ic 0 rfl mm_i0)
        obtain ⟨fn33, efn33⟩ : ∃ z : Nat → Int32, z = upd fn29 5 ((fn29 5) + rf) := ⟨_, rfl⟩
        rw [← efn33] at h2
        refine lv_aload_n hx hb dX4_mix_297 rfl (lv_at hl 0 rfl) ?_
        refine mm_get S hC hR (C := RX4) (T := TX4) (N := 4) (ref := "ForkWatch$Sha256") (v := .ref st) 0 h1 inRX4 rfl (by decide) (by decide +kernel) (fun _ h9 => h9) rfl dX4_mix_298 ?_
        refine lv_bipush (v := nI 6) hx hb dX4_mix_301 (by decide) ?_
        refine lv_dup2_11 hx hb dX4_mix_303 rfl rfl ?_
        refine mm_iald S hC hR h2 (j := 6) (by omega) (by omega) dX4_mix_304 ?_
        refine lv_iload hx hb dX4_mix_305 (lv_at hl 7 rfl) ?_
        refine lv_iadd hx hb dX4_mix_307 ?_
        refine mm_iast S hC hR h2 (j := 6) (by omega) (by omega) dX4_mix_308 (fun H locs M34 g36 f35 hR => ?_)
        have h1 := f35.at h1 (mm_nc (mm_neoi h1 h2) mm_n0)
        have h3 := f35.at h3 (mm_nc (mm_nelen h3 h2 (by decide)) mm_n0)
        have h2 : M34 st = some (ia G 8 (upd fn33 6 ((fn33 6) + rg))) := g36
        have hF := hF.tr f35 (mm_ic 0 rfl mm_i0)
        obtain ⟨fn37, efn37⟩ : ∃ z : Nat → Int32, z = upd fn33 6 ((fn33 6) + rg) := ⟨_, rfl⟩
        rw [← efn37] at h2
        refine lv_aload_n hx hb dX4_mix_309 rfl (lv_at hl 0 rfl) ?_
        refine mm_get S hC hR (C := RX4) (T := TX4) (N := 4) (ref := "ForkWatch$Sha256") (v := .ref st) 0 h1 inRX4 rfl (by decide) (by decide +kernel) (fun _ h9 => h9) rfl dX4_mix_310 ?_
        refine lv_bipush (v := nI 7) hx hb dX4_mix_313 (by decide) ?_
        refine lv_dup2_11 hx hb dX4_mix_315 rfl rfl ?_
        refine mm_iald S hC hR h2 (j := 7) (by omega) (by omega) dX4_mix_316 ?_
        refine lv_iload hx hb dX4_mix_317 (lv_at hl 8 rfl) ?_
        refine lv_iadd hx hb dX4_mix_319 ?_
        refine mm_iast S hC hR h2 (j := 7) (by omega) (by omega) dX4_mix_320 (fun H locs M38 g40 f39 hR => ?_)
        have h1 := f39.at h1 (mm_nc (mm_neoi h1 h2) mm_n0)
        have h3 := f39.at h3 (mm_nc (mm_nelen h3 h2 (by decide)) mm_n0)
        have h2 : M38 st = some (ia G 8 (upd fn37 7 ((fn37 7) + rh))) := g40
        have hF := hF.tr f39 (mm_ic 0 rfl mm_i0)
        obtain ⟨fn41, efn41⟩ : ∃ z : Nat → Int32, z = upd fn37 7 ((fn37 7) + rh) := ⟨_, rfl⟩
        rw [← efn41] at h2
        have e9 : fn41 = mx f g := by subst efn13 efn17 efn21 efn25 efn29 efn33 efn37 efn41 Era Erb Erc Erd Ere Erf Erg Erh; rfl
        exact mm_vret S hr hlocks hR ⟨by rw [e9] at h2; exact h2, hF⟩ dX4_mix_321
      · have c9 : ¬ (64 ≤ i) := fun z => c9 ((nI_leI (by omega) (by omega)).mpr z)
        refine lv_iload hx hb dX4_mix_73 (lv_at hl 5 rfl) ?_
        refine lv_bipush (v := nI 6) hx hb dX4_mix_75 (by decide) ?_
        refine lv_iushr hx hb dX4_mix_77 rfl ?_
        refine lv_iload hx hb dX4_mix_78 (lv_at hl 5 rfl) ?_
        refine lv_bipush (v := nI 26) hx hb dX4_mix_80 (by decide) ?_
        refine lv_ishl hx hb dX4_mix_82 ?_
        refine lv_ior hx hb dX4_mix_83 ?_
        refine lv_iload hx hb dX4_mix_84 (lv_at hl 5 rfl) ?_
        refine lv_bipush (v := nI 11) hx hb dX4_mix_86 (by decide) ?_
        refine lv_iushr hx hb dX4_mix_88 rfl ?_
        refine lv_iload hx hb dX4_mix_89 (lv_at hl 5 rfl) ?_
        refine lv_bipush (v := nI 21) hx hb dX4_mix_91 (by decide) ?_
        refine lv_ishl hx hb dX4_mix_93 ?_
        refine lv_ior hx hb dX4_mix_94 ?_
        refine lv_ixor hx hb dX4_mix_95 ?_
        refine lv_iload hx hb dX4_mix_96 (lv_at hl 5 rfl) ?_
        refine lv_bipush (v := nI 25) hx hb dX4_mix_98 (by decide) ?_
        refine lv_iushr hx hb dX4_mix_100 rfl ?_
        refine lv_iload hx hb dX4_mix_101 (lv_at hl 5 rfl) ?_
        refine lv_bipush (v := nI 7) hx hb dX4_mix_103 (by decide) ?_
        refine lv_ishl hx hb dX4_mix_105 ?_
        refine lv_ior hx hb dX4_mix_106 ?_
        refine lv_ixor hx hb dX4_mix_107 ?_
        refine lv_topi (fun x42 ex42 => ?_)
        refine lv_istore (lv' := [(10, .int x42), (0, .ref h), (1, .int ra), (2, .int rb), (3, .int rc), (4, .int rd), (5, .int re), (6, .int rf), (7, .int rg), (8, .int rh), (9, .int (nI i))]) hx hb dX4_mix_108 hl (by decide) rfl (fun ls hl => ?_)
        refine lv_iload_n hx hb dX4_mix_110 rfl (lv_at hl 2 rfl) ?_
        refine lv_iconst (v := nI 2) hx hb dX4_mix_111 (by decide) ?_
        refine lv_iushr hx hb dX4_mix_112 rfl ?_
        refine lv_iload_n hx hb dX4_mix_113 rfl (lv_at hl 2 rfl) ?_
        refine lv_bipush (v := nI 30) hx hb dX4_mix_114 (by decide) ?_
        refine lv_ishl hx hb dX4_mix_116 ?_
        refine lv_ior hx hb dX4_mix_117 ?_
        refine lv_iload_n hx hb dX4_mix_118 rfl (lv_at hl 2 rfl) ?_
        refine lv_bipush (v := nI 13) hx hb dX4_mix_119 (by decide) ?_
        refine lv_iushr hx hb dX4_mix_121 rfl ?_
        refine lv_iload_n hx hb dX4_mix_122 rfl (lv_at hl 2 rfl) ?_
        refine lv_bipush (v := nI 19) hx hb dX4_mix_123 (by decide) ?_
        refine lv_ishl hx hb dX4_mix_125 ?_
        refine lv_ior hx hb dX4_mix_126 ?_
        refine lv_ixor hx hb dX4_mix_127 ?_
        refine lv_iload_n hx hb dX4_mix_128 rfl (lv_at hl 2 rfl) ?_
        refine lv_bipush (v := nI 22) hx hb dX4_mix_129 (by decide) ?_
        refine lv_iushr hx hb dX4_mix_131 rfl ?_
        refine lv_iload_n hx hb dX4_mix_132 rfl (lv_at hl 2 rfl) ?_
        refine lv_bipush (v := nI 10) hx hb dX4_mix_133 (by decide) ?_
        refine lv_ishl hx hb dX4_mix_135 ?_
        refine lv_ior hx hb dX4_mix_136 ?_
        refine lv_ixor hx hb dX4_mix_137 ?_
        refine lv_topi (fun x43 ex43 => ?_)
        refine lv_istore (lv' := [(11, .int x43), (10, .int x42), (0, .ref h), (1, .int ra), (2, .int rb), (3, .int rc), (4, .int rd), (5, .int re), (6, .int rf), (7, .int rg), (8, .int rh), (9, .int (nI i))]) hx hb dX4_mix_138 hl (by decide) rfl (fun ls hl => ?_)
        refine lv_iload hx hb dX4_mix_140 (lv_at hl 7 rfl) ?_
        refine lv_iload hx hb dX4_mix_142 (lv_at hl 8 rfl) ?_
        refine lv_iand hx hb dX4_mix_144 ?_
        refine lv_iload hx hb dX4_mix_145 (lv_at hl 7 rfl) ?_
        refine lv_iconst (v := -1) hx hb dX4_mix_147 (by decide) ?_
        refine lv_ixor hx hb dX4_mix_148 ?_
        refine lv_iload hx hb dX4_mix_149 (lv_at hl 9 rfl) ?_
        refine lv_iand hx hb dX4_mix_151 ?_
        refine lv_ixor hx hb dX4_mix_152 ?_
        refine lv_topi (fun x44 ex44 => ?_)
        refine lv_istore (lv' := [(12, .int x44), (11, .int x43), (10, .int x42), (0, .ref h), (1, .int ra), (2, .int rb), (3, .int rc), (4, .int rd), (5, .int re), (6, .int rf), (7, .int rg), (8, .int rh), (9, .int (nI i))]) hx hb dX4_mix_153 hl (by decide) rfl (fun ls hl => ?_)
        refine lv_iload_n hx hb dX4_mix_155 rfl (lv_at hl 4 rfl) ?_
        refine lv_iload_n hx hb dX4_mix_156 rfl (lv_at hl 5 rfl) ?_
        refine lv_iand hx hb dX4_mix_157 ?_
        refine lv_iload_n hx hb dX4_mix_158 rfl (lv_at hl 4 rfl) ?_
        refine lv_iload_n hx hb dX4_mix_159 rfl (lv_at hl 6 rfl) ?_
        refine lv_iand hx hb dX4_mix_160 ?_
        refine lv_ixor hx hb dX4_mix_161 ?_
        refine lv_iload_n hx hb dX4_mix_162 rfl (lv_at hl 5 rfl) ?_
        refine lv_iload_n hx hb dX4_mix_163 rfl (lv_at hl 6 rfl) ?_
        refine lv_iand hx hb dX4_mix_164 ?_
        refine lv_ixor hx hb dX4_mix_165 ?_
        refine lv_topi (fun x45 ex45 => ?_)
        refine lv_istore (lv' := [(13, .int x45), (12, .int x44), (11, .int x43), (10, .int x42), (0, .ref h), (1, .int ra), (2, .int rb), (3, .int rc), (4, .int rd), (5, .int re), (6, .int rf), (7, .int rg), (8, .int rh), (9, .int (nI i))]) hx hb dX4_mix_166 hl (by decide) rfl (fun ls hl => ?_)
        refine lv_iload hx hb dX4_mix_168 (lv_at hl 12 rfl) ?_
        refine lv_iload hx hb dX4_mix_170 (lv_at hl 3 rfl) ?_
        refine lv_iadd hx hb dX4_mix_172 ?_
        refine lv_iload hx hb dX4_mix_173 (lv_at hl 1 rfl) ?_
        refine lv_iadd hx hb dX4_mix_175 ?_
        refine mm_ground S hC hR (by decide +kernel) dX4_mix_176 ?_
        refine lv_iload hx hb dX4_mix_179 (lv_at hl 13 rfl) ?_
        refine mm_tround S hC hR (j := i) (by omega) dX4_mix_181 ?_
        refine lv_iadd hx hb dX4_mix_182 ?_
        refine lv_aload_n hx hb dX4_mix_183 rfl (lv_at hl 4 rfl) ?_
        refine mm_get S hC hR (C := RX4) (T := TX4) (N := 4) (ref := "ForkWatch$Sha256") (v := .ref w) 1 h1 inRX4 rfl (by decide) (by decide +kernel) (fun _ h9 => h9) rfl dX4_mix_184 ?_
        refine lv_iload hx hb dX4_mix_187 (lv_at hl 13 rfl) ?_
        refine mm_iald S hC hR h3 (j := i) (by omega) (by omega) dX4_mix_189 ?_
        refine lv_iadd hx hb dX4_mix_190 ?_
        refine lv_topi (fun x46 ex46 => ?_)
        refine lv_istore (lv' := [(14, .int x46), (13, .int x45), (12, .int x44), (11, .int x43), (10, .int x42), (0, .ref h), (1, .int ra), (2, .int rb), (3, .int rc), (4, .int rd), (5, .int re), (6, .int rf), (7, .int rg), (8, .int rh), (9, .int (nI i))]) hx hb dX4_mix_191 hl (by decide) rfl (fun ls hl => ?_)
        refine lv_iload hx hb dX4_mix_193 (lv_at hl 12 rfl) ?_
        refine lv_istore (lv' := [(8, .int rg), (14, .int x46), (13, .int x45), (12, .int x44), (11, .int x43), (10, .int x42), (0, .ref h), (1, .int ra), (2, .int rb), (3, .int rc), (4, .int rd), (5, .int re), (6, .int rf), (7, .int rg), (9, .int (nI i))]) hx hb dX4_mix_195 hl (by decide) rfl (fun ls hl => ?_)
        refine lv_iload hx hb dX4_mix_197 (lv_at hl 12 rfl) ?_
        refine lv_istore (lv' := [(7, .int rf), (8, .int rg), (14, .int x46), (13, .int x45), (12, .int x44), (11, .int x43), (10, .int x42), (0, .ref h), (1, .int ra), (2, .int rb), (3, .int rc), (4, .int rd), (5, .int re), (6, .int rf), (9, .int (nI i))]) hx hb dX4_mix_199 hl (by decide) rfl (fun ls hl => ?_)
        refine lv_iload hx hb dX4_mix_201 (lv_at hl 12 rfl) ?_
        refine lv_istore (lv' := [(6, .int re), (7, .int rf), (8, .int rg), (14, .int x46), (13, .int x45), (12, .int x44), (11, .int x43), (10, .int x42), (0, .ref h), (1, .int ra), (2, .int rb), (3, .int rc), (4, .int rd), (5, .int re), (9, .int (nI i))]) hx hb dX4_mix_203 hl (by decide) rfl (fun ls hl => ?_)
        refine lv_iload hx hb dX4_mix_205 (lv_at hl 12 rfl) ?_
        refine lv_iload hx hb dX4_mix_207 (lv_at hl 3 rfl) ?_
        refine lv_iadd hx hb dX4_mix_209 ?_
        refine lv_istore (lv' := [(5, .int (rd + x46)), (6, .int re), (7, .int rf), (8, .int rg), (14, .int x46), (13, .int x45), (12, .int x44), (11, .int x43), (10, .int x42), (0, .ref h), (1, .int ra), (2, .int rb), (3, .int rc), (4, .int rd), (9, .int (nI i))]) hx hb dX4_mix_210 hl (by decide) rfl (fun ls hl => ?_)
        refine lv_iload_n hx hb dX4_mix_212 rfl (lv_at hl 12 rfl) ?_
        refine lv_istore (lv' := [(4, .int rc), (5, .int (rd + x46)), (6, .int re), (7, .int rf), (8, .int rg), (14, .int x46), (13, .int x45), (12, .int x44), (11, .int x43), (10, .int x42), (0, .ref h), (1, .int ra), (2, .int rb), (3, .int rc), (9, .int (nI i))]) hx hb dX4_mix_213 hl (by decide) rfl (fun ls hl => ?_)
        refine lv_iload_n hx hb dX4_mix_215 rfl (lv_at hl 12 rfl) ?_
        refine lv_istore_n (lv' := [(3, .int rb), (4, .int rc), (5, .int (rd + x46)), (6, .int re), (7, .int rf), (8, .int rg), (14, .int x46), (13, .int x45), (12, .int x44), (11, .int x43), (10, .int x42), (0, .ref h), (1, .int ra), (2, .int rb), (9, .int (nI i))]) hx hb dX4_mix_216 rfl hl (by decide) rfl (fun ls hl => ?_)
        refine lv_iload_n hx hb dX4_mix_217 rfl (lv_at hl 12 rfl) ?_
        refine lv_istore_n (lv' := [(2, .int ra), (3, .int rb), (4, .int rc), (5, .int (rd + x46)), (6, .int re), (7, .int rf), (8, .int rg), (14, .int x46), (13, .int x45), (12, .int x44), (11, .int x43), (10, .int x42), (0, .ref h), (1, .int ra), (9, .int (nI i))]) hx hb dX4_mix_218 rfl hl (by decide) rfl (fun ls hl => ?_)
        refine lv_iload hx hb dX4_mix_219 (lv_at hl 7 rfl) ?_
        refine lv_iload hx hb dX4_mix_221 (lv_at hl 10 rfl) ?_
        refine lv_iadd hx hb dX4_mix_223 ?_
        refine lv_iload hx hb dX4_mix_224 (lv_at hl 8 rfl) ?_
        refine lv_iadd hx hb dX4_mix_226 ?_
        refine lv_topi (fun x47 ex47 => ?_)
        refine lv_istore_n (lv' := [(1, .int x47), (2, .int ra), (3, .int rb), (4, .int rc), (5, .int (rd + x46)), (6, .int re), (7, .int rf), (8, .int rg), (14, .int x46), (13, .int x45), (12, .int x44), (11, .int x43), (10, .int x42), (0, .ref h), (9, .int (nI i))]) hx hb dX4_mix_227 rfl hl (by decide) rfl (fun ls hl => ?_)
        refine lv_iinc (v := (nI (i + 1))) (lv' := [(9, .int (nI (i + 1))), (1, .int x47), (2, .int ra), (3, .int rb), (4, .int rc), (5, .int (rd + x46)), (6, .int re), (7, .int rf), (8, .int rg), (14, .int x46), (13, .int x45), (12, .int x44), (11, .int x43), (10, .int x42), (0, .ref h)]) hx hb dX4_mix_228 hl (k := 14) rfl (by rw [show Int32.ofInt 1 = nI 1 from by decide]; exact nI_add _ _) (by decide) rfl (fun ls hl => ?_)
        refine lv_goto (tgt := 66) hx hb dX4_mix_231 (by decide) ?_
        have q : ∀ j, j < 8 → True := fun _ _ => trivial
        exact ih (i + 1) x47 ra rb rc (rd + x46) re rf rg ls (by omega) (by omega) (by subst ex42 ex43 ex44 ex45 ex46 ex47 Era Erb Erc Erd Ere Erf Erg Erh; rfl) (by subst ex42 ex43 ex44 ex45 ex46 ex47 Era Erb Erc Erd Ere Erf Erg Erh; rfl) (by subst ex42 ex43 ex44 ex45 ex46 ex47 Era Erb Erc Erd Ere Erf Erg Erh; rfl) (by subst ex42 ex43 ex44 ex45 ex46 ex47 Era Erb Erc Erd Ere Erf Erg Erh; rfl) (by subst ex42 ex43 ex44 ex45 ex46 ex47 Era Erb Erc Erd Ere Erf Erg Erh; rfl) (by subst ex42 ex43 ex44 ex45 ex46 ex47 Era Erb Erc Erd Ere Erf Erg Erh; rfl) (by subst ex42 ex43 ex44 ex45 ex46 ex47 Era Erb Erc Erd Ere Erf Erg Erh; rfl) (by subst ex42 ex43 ex44 ex45 ex46 ex47 Era Erb Erc Erd Ere Erf Erg Erh; rfl) (lv_sub hl [14, 1, 2, 3, 4, 5, 6, 7, 8, 0] rfl)
  exact loop 65 0 x1 x2 x3 x4 x5 x6 x7 x8 ls (by omega) (by omega) ex1 ex2 ex3 ex4 ex5 ex6 ex7 ex8 (lv_sub hl [9, 8, 7, 6, 5, 4, 3, 2, 1, 0] rfl)
