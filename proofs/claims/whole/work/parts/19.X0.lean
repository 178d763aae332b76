/-- a Files: itself, the contents, the lengths -/
def fiA (G : mm_G) (M : mm_M) (F c n : Nat) (fc fl : Nat → Int32) : Prop := M F = some (ob 1 [.ref c, .ref n]) ∧ M c = some (ia G 192 fc) ∧ M n = some (ia G 16 fl)

set_option maxHeartbeats 4000000 in
set_option maxRecDepth 100000 in
/-- Files() -/
theorem c_X0_init (l : Launch) (G : mm_G) (M : mm_M) (sz : Nat) (F : Nat) (h1 : M F = some (ob 1 [.null, .null]))  : mm_v l yX0_init wsX0_init ({ frames := 1, cells := 2, slots := 208, locals := 12 } : Room) G ([.ref F] : List Value) M sz (fun M' => ∃ c n, M c = none ∧ M n = none ∧ fiA G M' F c n (fun _ => 0) (fun _ => 0) ∧ mm_fr [F] M M') := by
  refine mm_enter (cc := cX0_init) (maxL := 1) (ret := none) _ (by decide) rfl (Nat.le_of_ble_eq_true rfl) ?_
  intro p0 e0 s m0 be0 me0 c0 ls S hr hlocks hname hA hC hR hl
  have hx := S.1
  have hb := S.2.1
  have hl : lv_has ls 1 [(0, .ref F)] := hl
  have hin : me0.name = "<init>" := hname
  have inRX0 : ∀ w ∈ wsX00, w ∈ wsX0_init := by decide +kernel
  have hF : mm_fr [F] M M := mm_fr.rf
  refine lv_aload_n hx hb dX0_init_0 rfl (lv_at hl 0 rfl) ?_
  refine W.objInit hx hb S.2.2.2.1 (S.2.2.2.2 (.methodLink RX0 3 objectInit) (by decide +kernel)) (S.2.2.2.2 (.instanceMethod objectInit) (by decide +kernel)) (S.2.2.2.2 (.code objectInit ⟨#[0xb1]⟩ 1 none) (by decide +kernel)) rfl (by rw [S.2.2.1]; exact hl.1) rfl dX0_init_1 (Nat.le_of_ble_eq_true rfl) (Nat.le_of_ble_eq_true rfl) ?_
  refine W.eq (g2 := F0 m0 4 ls []) rfl ?_
  refine lv_aload_n hx hb dX0_init_4 rfl (lv_at hl 0 rfl) ?_
  refine lv_sipush (v := nI 192) hx hb dX0_init_5 (by decide) ?_
  refine mm_newi S hC hA hR (by decide +kernel) (n := 192) (by omega) (Nat.le_of_ble_eq_true rfl) (Nat.le_of_ble_eq_true rfl) dX0_init_8 (fun c H M6 z8 h2 f7 hR => ?_)
  have n_F_c : F ≠ c := mm_nenew h1 z8
  have nn_c : M c = none := hF.none z8 (mm_oc h1 mm_o0)
  have h1 := f7.at h1 mm_n0
  have h2 : M6 c = some (ia G 192 (fun _ => 0)) := h2
  have hF := hF.tr f7 mm_i0
  refine mm_putF S hC hR (C := RX0) (T := TX0) (N := 2) (ref := "ForkWatch$Files") 0 h1 inRX0 rfl tyX0_ok nmX0 (by decide) (by decide +kernel) (fun _ h9 => h9) rfl hin rfl rfl rfl (Nat.le_of_ble_eq_true rfl) dX0_init_10 (fun H locs M9 g11 f10 hR => ?_)
  have h2 := f10.at h2 (mm_nc (Ne.symm n_F_c) mm_n0)
  have h1 : M9 F = some (ob 1 [.ref c, .null]) := g11
  have hF := hF.tr f10 (mm_ic 0 rfl mm_i0)
  refine lv_aload_n hx hb dX0_init_13 rfl (lv_at hl 0 rfl) ?_
  refine lv_bipush (v := nI 16) hx hb dX0_init_14 (by decide) ?_
  refine mm_newi S hC hA hR (by decide +kernel) (n := 16) (by omega) (Nat.le_of_ble_eq_true rfl) (Nat.le_of_ble_eq_true rfl) dX0_init_16 (fun n H M12 z14 h3 f13 hR => ?_)
  have n_F_n : F ≠ n := mm_nenew h1 z14
  have n_c_n : c ≠ n := mm_nenew h2 z14
  have nn_n : M n = none := hF.none z14 (mm_oc h1 mm_o0)
  have h1 := f13.at h1 mm_n0
  have h2 := f13.at h2 mm_n0
  have h3 : M12 n = some (ia G 16 (fun _ => 0)) := h3
  have hF := hF.tr f13 mm_i0
  refine mm_putF S hC hR (C := RX0) (T := TX0) (N := 2) (ref := "ForkWatch$Files") 1 h1 inRX0 rfl tyX0_ok nmX0 (by decide) (by decide +kernel) (fun _ h9 => h9) rfl hin rfl rfl rfl (Nat.le_of_ble_eq_true rfl) dX0_init_18 (fun H locs M15 g17 f16 hR => ?_)
  have h2 := f16.at h2 (mm_nc (Ne.symm n_F_c) mm_n0)
  have h3 := f16.at h3 (mm_nc (Ne.symm n_F_n) mm_n0)
  have h1 : M15 F = some (ob 1 [.ref c, .ref n]) := g17
  have hF := hF.tr f16 (mm_ic 0 rfl mm_i0)
  exact mm_vret S hr hlocks hR ⟨c, n, nn_c, nn_n, ⟨h1, h2, h3⟩, hF⟩ dX0_init_21

set_option maxHeartbeats 4000000 in
set_option maxRecDepth 100000 in
/-- put(file, bytes, count) -/
theorem c_X0_put (l : Launch) (G : mm_G) (M : mm_M) (sz : Nat) (F c n y k fi len : Nat) (fc fl r : Nat → Int32) (h1 : M F = some (ob 1 [.ref c, .ref n])) (h2 : M c = some (ia G 192 fc)) (h3 : M n = some (ia G 16 fl)) (h4 : M y = some (ia G k r)) (hfi : fi < 16) (hlen : len ≤ 12) (hk : len ≤ k) (hk2 : k < 2 ^ 31) : mm_v l yX0_put wsX0_put ({ frames := 1, cells := 0, slots := 0, locals := 30 } : Room) G ([.ref F, .int (nI fi), .ref y, .int (nI len)] : List Value) M sz (fun M' => fiA G M' F c n (va_cpy r fc 0 (fi * 12) len) (upd fl fi (nI len)) ∧ mm_fr [c, n] M M') := by
  refine mm_enter (cc := cX0_put) (maxL := 4) (ret := none) _ (by decide) rfl (Nat.le_of_ble_eq_true rfl) ?_
  intro p0 e0 s m0 be0 me0 c0 ls S hr hlocks hname hA hC hR hl
  have hx := S.1
  have hb := S.2.1
  have hl : lv_has ls 4 [(0, .ref F), (1, .int (nI fi)), (2, .ref y), (3, .int (nI len))] := hl
  have inRX0 : ∀ w ∈ wsX00, w ∈ wsX0_put := by decide +kernel
  have hF : mm_fr [c, n] M M := mm_fr.rf
  refine lv_aload_n hx hb dX0_put_0 rfl (lv_at hl 2 rfl) ?_
  refine lv_iconst (v := nI 0) hx hb dX0_put_1 (by decide) ?_
  refine lv_aload_n hx hb dX0_put_2 rfl (lv_at hl 0 rfl) ?_
  refine mm_get S hC hR (C := RX0) (T := TX0) (N := 2) (ref := "ForkWatch$Files") (v := .ref c) 0 h1 inRX0 rfl (by decide) (by decide +kernel) (fun _ h9 => h9) rfl dX0_put_3 ?_
  refine lv_iload_n hx hb dX0_put_6 rfl (lv_at hl 1 rfl) ?_
  refine lv_bipush (v := nI 12) hx hb dX0_put_7 (by decide) ?_
  refine lv_imul hx hb dX0_put_9 ?_
  refine mm_eqi (pk_mul _ _) ?_
  refine lv_iload_n hx hb dX0_put_10 rfl (lv_at hl 3 rfl) ?_
  refine mm_copy S hC hR hl.1 h4 h2 (by decide +kernel) (by decide +kernel) (by decide +kernel) (by decide +kernel) (sp := 0) (dp := (fi * 12)) (n := len) (by omega) (by omega) (by omega) (by omega) (Nat.le_of_ble_eq_true rfl) (Nat.le_of_ble_eq_true rfl) dX0_put_11 (fun H locs M18 g20 f19 hR => ?_)
  have h1 := f19.at h1 (mm_nc (mm_neoi h1 h2) mm_n0)
  have h3 := f19.at h3 (mm_nc (mm_nelen h3 h2 (by decide)) mm_n0)
  have h2 : M18 c = some (ia G 192 (va_cpy r fc 0 (fi * 12) len)) := g20
  have hF := hF.tr f19 (mm_ic 0 rfl mm_i0)
  refine lv_aload_n hx hb dX0_put_14 rfl (lv_at hl 0 rfl) ?_
  refine mm_get S hC hR (C := RX0) (T := TX0) (N := 2) (ref := "ForkWatch$Files") (v := .ref n) 1 h1 inRX0 rfl (by decide) (by decide +kernel) (fun _ h9 => h9) rfl dX0_put_15 ?_
  refine lv_iload_n hx hb dX0_put_18 rfl (lv_at hl 1 rfl) ?_
  refine lv_iload_n hx hb dX0_put_19 rfl (lv_at hl 3 rfl) ?_
  refine mm_iast S hC hR h3 (j := fi) (by omega) (by omega) dX0_put_20 (fun H locs M21 g23 f22 hR => ?_)
  have h1 := f22.at h1 (mm_nc (mm_neoi h1 h3) mm_n0)
  have h2 := f22.at h2 (mm_nc (mm_nelen h2 h3 (by decide)) mm_n0)
  have h3 : M21 n = some (ia G 16 (upd fl fi (nI len))) := g23
  have hF := hF.tr f22 (mm_ic 1 rfl mm_i0)
  exact mm_vret S hr hlocks hR ⟨⟨h1, h2, h3⟩, hF⟩ dX0_put_21

set_option maxHeartbeats 4000000 in
set_option maxRecDepth 100000 in
/-- become(other) -/
theorem c_X0_become (l : Launch) (G : mm_G) (M : mm_M) (sz : Nat) (F c n F' c' n' : Nat) (fc fl fc' fl' : Nat → Int32) (h1 : M F = some (ob 1 [.ref c, .ref n])) (h2 : M c = some (ia G 192 fc)) (h3 : M n = some (ia G 16 fl)) (h4 : M F' = some (ob 1 [.ref c', .ref n'])) (h5 : M c' = some (ia G 192 fc')) (h6 : M n' = some (ia G 16 fl'))  : mm_v l yX0_become wsX0_become ({ frames := 1, cells := 0, slots := 0, locals := 30 } : Room) G ([.ref F, .ref F'] : List Value) M sz (fun M' => fiA G M' F c n (va_cpy fc' fc 0 0 192) (va_cpy fl' fl 0 0 16) ∧ mm_fr [c, n] M M') := by
  refine mm_enter (cc := cX0_become) (maxL := 2) (ret := none) _ (by decide) rfl (Nat.le_of_ble_eq_true rfl) ?_
  intro p0 e0 s m0 be0 me0 c0 ls S hr hlocks hname hA hC hR hl
  have hx := S.1
  have hb := S.2.1
  have hl : lv_has ls 2 [(0, .ref F), (1, .ref F')] := hl
  have inRX0 : ∀ w ∈ wsX00, w ∈ wsX0_become := by decide +kernel
  have hF : mm_fr [c, n] M M := mm_fr.rf
  refine lv_aload_n hx hb dX0_become_0 rfl (lv_at hl 1 rfl) ?_
  refine mm_get S hC hR (C := RX0) (T := TX0) (N := 2) (ref := "ForkWatch$Files") (v := .ref c') 0 h4 inRX0 rfl (by decide) (by decide +kernel) (fun _ h9 => h9) rfl dX0_become_1 ?_
  refine lv_iconst (v := nI 0) hx hb dX0_become_4 (by decide) ?_
  refine lv_aload_n hx hb dX0_become_5 rfl (lv_at hl 0 rfl) ?_
  refine mm_get S hC hR (C := RX0) (T := TX0) (N := 2) (ref := "ForkWatch$Files") (v := .ref c) 0 h1 inRX0 rfl (by decide) (by decide +kernel) (fun _ h9 => h9) rfl dX0_become_6 ?_
  refine lv_iconst (v := nI 0) hx hb dX0_become_9 (by decide) ?_
  refine lv_aload_n hx hb dX0_become_10 rfl (lv_at hl 0 rfl) ?_
  refine mm_get S hC hR (C := RX0) (T := TX0) (N := 2) (ref := "ForkWatch$Files") (v := .ref c) 0 h1 inRX0 rfl (by decide) (by decide +kernel) (fun _ h9 => h9) rfl dX0_become_11 ?_
  refine mm_ilen S hC hR h2 dX0_become_14 ?_
  refine mm_copy S hC hR hl.1 h5 h2 (by decide +kernel) (by decide +kernel) (by decide +kernel) (by decide +kernel) (sp := 0) (dp := 0) (n := 192) (by omega) (by omega) (by omega) (by omega) (Nat.le_of_ble_eq_true rfl) (Nat.le_of_ble_eq_true rfl) dX0_become_15 (fun H locs M24 g26 f25 hR => ?_)
  have h1 := f25.at h1 (mm_nc (mm_neoi h1 h2) mm_n0)
  have h3 := f25.at h3 (mm_nc (mm_nelen h3 h2 (by decide)) mm_n0)
  have h4 := f25.at h4 (mm_nc (mm_neoi h4 h2) mm_n0)
  have h6 := f25.at h6 (mm_nc (mm_nelen h6 h2 (by decide)) mm_n0)
  have h2 : M24 c = some (ia G 192 (va_cpy fc' fc 0 0 192)) := g26
  have hF := hF.tr f25 (mm_ic 0 rfl mm_i0)
  refine lv_aload_n hx hb dX0_become_18 rfl (lv_at hl 1 rfl) ?_
  refine mm_get S hC hR (C := RX0) (T := TX0) (N := 2) (ref := "ForkWatch$Files") (v := .ref n') 1 h4 inRX0 rfl (by decide) (by decide +kernel) (fun _ h9 => h9) rfl dX0_become_19 ?_
  refine lv_iconst (v := nI 0) hx hb dX0_become_22 (by decide) ?_
  refine lv_aload_n hx hb dX0_become_23 rfl (lv_at hl 0 rfl) ?_
  refine mm_get S hC hR (C := RX0) (T := TX0) (N := 2) (ref := "ForkWatch$Files") (v := .ref n) 1 h1 inRX0 rfl (by decide) (by decide +kernel) (fun _ h9 => h9) rfl dX0_become_24 ?_
  refine lv_iconst (v := nI 0) hx hb dX0_become_27 (by decide) ?_
  refine lv_bipush (v := nI 16) hx hb dX0_become_28 (by decide) ?_
  refine mm_copy S hC hR hl.1 h6 h3 (by decide +kernel) (by decide +kernel) (by decide +kernel) (by decide +kernel) (sp := 0) (dp := 0) (n := 16) (by omega) (by omega) (by omega) (by omega) (Nat.le_of_ble_eq_true rfl) (Nat.le_of_ble_eq_true rfl) dX0_become_30 (fun H locs M27 g29 f28 hR => ?_)
  have h1 := f28.at h1 (mm_nc (mm_neoi h1 h3) mm_n0)
  have h2 := f28.at h2 (mm_nc (mm_nelen h2 h3 (by decide)) mm_n0)
  have h4 := f28.at h4 (mm_nc (mm_neoi h4 h3) mm_n0)
  have h3 : M27 n = some (ia G 16 (va_cpy fl' fl 0 0 16)) := g29
  have hF := hF.tr f28 (mm_ic 1 rfl mm_i0)
  exact mm_vret S hr hlocks hR ⟨⟨h1, h2, h3⟩, hF⟩ dX0_become_33

set_option maxHeartbeats 4000000 in
set_option maxRecDepth 100000 in
/-- clear() -/
theorem c_X0_clear (l : Launch) (G : mm_G) (M : mm_M) (sz : Nat) (F c n : Nat) (fc fl : Nat → Int32) (h1 : M F = some (ob 1 [.ref c, .ref n])) (h2 : M c = some (ia G 192 fc)) (h3 : M n = some (ia G 16 fl))  : mm_v l yX0_clear wsX0_clear ({ frames := 1, cells := 0, slots := 0, locals := 30 } : Room) G ([.ref F] : List Value) M sz (fun M' => fiA G M' F c n fc (fl_go fl 0 16) ∧ mm_fr [n] M M') := by
  refine mm_enter (cc := cX0_clear) (maxL := 1) (ret := none) _ (by decide) rfl (Nat.le_of_ble_eq_true rfl) ?_
  intro p0 e0 s m0 be0 me0 c0 ls S hr hlocks hname hA hC hR hl
  have hx := S.1
  have hb := S.2.1
  have hl : lv_has ls 1 [(0, .ref F)] := hl
  have inRX0 : ∀ w ∈ wsX00, w ∈ wsX0_clear := by decide +kernel
  have hF : mm_fr [n] M M := mm_fr.rf
  refine lv_aload_n hx hb dX0_clear_0 rfl (lv_at hl 0 rfl) ?_
  refine mm_get S hC hR (C := RX0) (T := TX0) (N := 2) (ref := "ForkWatch$Files") (v := .ref n) 1 h1 inRX0 rfl (by decide) (by decide +kernel) (fun _ h9 => h9) rfl dX0_clear_1 ?_
  refine lv_iconst (v := nI 0) hx hb dX0_clear_4 (by decide) ?_
  refine mm_callv hA hR (va_runS (As := [.ref n, .int (nI 0)]) (rest := []) S (c_J7_fill_53178 l G M _ n 16 fl (nI 0) h3 (by decide)) (va_cwS 2 S.2.2.2.2 gX0_clear_J7_fill_53178 rfl rfl rfl (by decide +kernel) ⟨Nat.le_of_ble_eq_true rfl, Nat.le_of_ble_eq_true rfl⟩) (mm_preS hC hA hR _) rfl rfl hl.1 rfl (lv_room (Nat.le_of_ble_eq_true rfl)) dX0_clear_5 ⟨Nat.le_of_ble_eq_true rfl, Nat.le_of_ble_eq_true rfl⟩) (fun M31 H locs hp hR => ?_)
  obtain ⟨e1, ff⟩ := hp
  rw [nI_0] at e1
  have h1 := ff.at h1 (mm_nc (mm_neoi h1 h3) mm_n0)
  have h2 := ff.at h2 (mm_nc (mm_nelen h2 h3 (by decide)) mm_n0)
  have h3 : M31 n = some (ia G 16 (fl_go fl 0 16)) := e1
  have hF := hF.tr ff (mm_ic 0 rfl mm_i0)
  exact mm_vret S hr hlocks hR ⟨⟨h1, h2, h3⟩, hF⟩ dX0_clear_8

set_option maxHeartbeats 4000000 in
set_option maxRecDepth 100000 in
/-- holds(file, bytes) -/
theorem c_X0_holds (l : Launch) (G : mm_G) (M : mm_M) (sz : Nat) (F c n y k fi : Nat) (fc fl r : Nat → Int32) (h1 : M F = some (ob 1 [.ref c, .ref n])) (h2 : M c = some (ia G 192 fc)) (h3 : M n = some (ia G 16 fl)) (h4 : M y = some (ia G k r)) (hfi : fi < 16) (hk : k ≤ 12) : mm_i l yX0_holds wsX0_holds ({ frames := 1, cells := 0, slots := 0, locals := 40 } : Room) G ([.ref F, .int (nI fi), .ref y] : List Value) M sz (fun x M' => bq x (fl fi = nI k ∧ ∀ i, i < k → fc (fi * 12 + i) = r i) ∧ mm_fr [] M M') := by
  refine mm_enter (cc := cX0_holds) (maxL := 3) (ret := (some .boolean)) _ (by decide) rfl (Nat.le_of_ble_eq_true rfl) ?_
  intro p0 e0 s m0 be0 me0 c0 ls S hr hlocks hname hA hC hR hl
  have hx := S.1
  have hb := S.2.1
  have hl : lv_has ls 3 [(0, .ref F), (1, .int (nI fi)), (2, .ref y)] := hl
  have inRX0 : ∀ w ∈ wsX00, w ∈ wsX0_holds := by decide +kernel
  have hF : mm_fr [] M M := mm_fr.rf
  refine lv_aload_n hx hb dX0_holds_0 rfl (lv_at hl 0 rfl) ?_
  refine mm_get S hC hR (C := RX0) (T := TX0) (N := 2) (ref := "ForkWatch$Files") (v := .ref n) 1 h1 inRX0 rfl (by decide) (by decide +kernel) (fun _ h9 => h9) rfl dX0_holds_1 ?_
  refine lv_iload_n hx hb dX0_holds_4 rfl (lv_at hl 1 rfl) ?_
  refine mm_iald S hC hR h3 (j := fi) (by omega) (by omega) dX0_holds_5 ?_
  refine lv_aload_n hx hb dX0_holds_6 rfl (lv_at hl 2 rfl) ?_
  refine mm_ilen S hC hR h4 dX0_holds_7 ?_
  refine lv_icmp_ne (tgt := 33) hx hb dX0_holds_8 (by decide) (fun c1 => ?_) (fun c1 => ?_)
  · skip
    refine lv_iconst (v := nI 0) hx hb dX0_holds_33 (by decide) ?_
    exact mm_zret S hr hlocks (by decide) hR ⟨Or.inr ⟨rfl, fun z => c1 z.1⟩, hF⟩ dX0_holds_34
  · skip
    refine lv_aload_n hx hb dX0_holds_11 rfl (lv_at hl 0 rfl) ?_
    refine mm_get S hC hR (C := RX0) (T := TX0) (N := 2) (ref := "ForkWatch$Files") (v := .ref c) 0 h1 inRX0 rfl (by decide) (by decide +kernel) (fun _ h9 => h9) rfl dX0_holds_12 ?_
    refine lv_iload_n hx hb dX0_holds_15 rfl (lv_at hl 1 rfl) ?_
    refine lv_bipush (v := nI 12) hx hb dX0_holds_16 (by decide) ?_
    refine lv_imul hx hb dX0_holds_18 ?_
    refine mm_eqi (pk_mul _ _) ?_
    refine lv_aload_n hx hb dX0_holds_19 rfl (lv_at hl 2 rfl) ?_
    refine lv_iconst (v := nI 0) hx hb dX0_holds_20 (by decide) ?_
    refine lv_aload_n hx hb dX0_holds_21 rfl (lv_at hl 2 rfl) ?_
    refine mm_ilen S hC hR h4 dX0_holds_22 ?_
    refine mm_calli hA hR (va_runSN (As := [.ref c, .int (nI (fi * 12)), .ref y, .int (nI 0), .int (nI k)]) (rest := []) S (c_X8_sameRow l G M _ c y 192 k (fi * 12) 0 k fc r h2 h4 (by omega) (by omega) (by decide) (by omega)) ⟨va_cnB 5 S.2.2.2.2 gX0_holds_X8_sameRow_n30 rfl rfl rfl (hC.2.2.2.2.2 (.methodLinkNest RX0 30 yX8_sameRow "ForkWatch") (by decide +kernel)) (S.2.2.2.2 (.initialized RX8) (by decide +kernel)) (by decide +kernel) ⟨Nat.le_of_ble_eq_true rfl, Nat.le_of_ble_eq_true rfl⟩, S.2.2.2.2 (.static yX8_sameRow) (by decide +kernel), trivial⟩ (mm_preS hC hA hR _) rfl rfl hl.1 rfl (lv_room (Nat.le_of_ble_eq_true rfl)) dX0_holds_23 ⟨Nat.le_of_ble_eq_true rfl, Nat.le_of_ble_eq_true rfl⟩) (fun r32 M33 H locs hp hR => ?_)
    obtain ⟨q1, ff⟩ := hp
    have h1 := ff.at h1 mm_n0
    have h2 := ff.at h2 mm_n0
    have h3 := ff.at h3 mm_n0
    have h4 := ff.at h4 mm_n0
    have hF := hF.tr ff mm_i0
    rcases q1 with ⟨e1, q1⟩ | ⟨e1, q1⟩ <;> subst e1
    · skip
      refine lv_if_eq (tgt := 33) hx hb dX0_holds_26 (by decide) (fun z => by first | exact absurd z (by decide) | exact absurd (by decide) z) (fun _ => ?_)
      refine lv_iconst (v := nI 1) hx hb dX0_holds_29 (by decide) ?_
      refine lv_goto (tgt := 34) hx hb dX0_holds_30 (by decide) ?_
      exact mm_zret S hr hlocks (by decide) hR ⟨Or.inl ⟨rfl, c1, fun i hi => by have z := q1 i hi; rw [Nat.zero_add] at z; exact z⟩, hF⟩ dX0_holds_34
    · skip
      refine lv_if_eq (tgt := 33) hx hb dX0_holds_26 (by decide) (fun _ => ?_) (fun z => by first | exact absurd z (by decide) | exact absurd (by decide) z)
      refine lv_iconst (v := nI 0) hx hb dX0_holds_33 (by decide) ?_
      exact mm_zret S hr hlocks (by decide) hR ⟨Or.inr ⟨rfl, fun z => q1 (fun i hi => by rw [Nat.zero_add]; exact z.2 i hi)⟩, hF⟩ dX0_holds_34
