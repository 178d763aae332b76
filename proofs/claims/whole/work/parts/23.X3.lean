set_option maxHeartbeats 4000000 in
set_option maxRecDepth 100000 in
/-- Operation(..) -/
theorem c_X3_init (l : Launch) (G : mm_G) (M : mm_M) (sz : Nat) (O : Nat) (x : Int32) (cl nu fi y : Nat) (h1 : M O = some (ob 4 [.int (nI 0), .int (nI 0), .int (nI 0), .int (nI 0), .null])) (hz : narrow .boolean (.int x) = .int x ∧ fits .boolean (.int x) = true) : mm_v l yX3_init wsX3_init ({ frames := 1, cells := 0, slots := 0, locals := 12 } : Room) G ([.ref O, .int x, .int (nI cl), .int (nI nu), .int (nI fi), .ref y] : List Value) M sz (fun M' => M' O = some (ob 4 [.int x, .int (nI cl), .int (nI nu), .int (nI fi), .ref y]) ∧ mm_fr [O] M M') := by
  refine mm_enter (cc := cX3_init) (maxL := 6) (ret := none) _ (by decide) rfl (Nat.le_of_ble_eq_true rfl) ?_
  intro p0 e0 s m0 be0 me0 c0 ls S hr hlocks hname hA hC hR hl
  have hx := S.1
  have hb := S.2.1
  have hl : lv_has ls 6 [(0, .ref O), (1, .int x), (2, .int (nI cl)), (3, .int (nI nu)), (4, .int (nI fi)), (5, .ref y)] := hl
  have hin : me0.name = "<init>" := hname
  have inRX3 : ∀ w ∈ wsX30, w ∈ wsX3_init := by decide +kernel
  have hF : mm_fr [O] M M := mm_fr.rf
  refine lv_aload_n hx hb dX3_init_0 rfl (lv_at hl 0 rfl) ?_
  refine W.objInit hx hb S.2.2.2.1 (S.2.2.2.2 (.methodLink RX3 1 objectInit) (by decide +kernel)) (S.2.2.2.2 (.instanceMethod objectInit) (by decide +kernel)) (S.2.2.2.2 (.code objectInit ⟨#[0xb1]⟩ 1 none) (by decide +kernel)) rfl (by rw [S.2.2.1]; exact hl.1) rfl dX3_init_1 (Nat.le_of_ble_eq_true rfl) (Nat.le_of_ble_eq_true rfl) ?_
  refine W.eq (g2 := F0 m0 4 ls []) rfl ?_
  refine lv_aload_n hx hb dX3_init_4 rfl (lv_at hl 0 rfl) ?_
  refine lv_iload_n hx hb dX3_init_5 rfl (lv_at hl 1 rfl) ?_
  refine mm_putF S hC hR (C := RX3) (T := TX3) (N := 5) (ref := "ForkWatch$Operation") 0 h1 inRX3 rfl tyX3_ok nmX3 (by decide) (by decide +kernel) (fun _ h9 => h9) rfl hin rfl hz.1 hz.2 (Nat.le_of_ble_eq_true rfl) dX3_init_6 (fun H locs M34 g36 f35 hR => ?_)
  have h1 : M34 O = some (ob 4 [.int x, .int (nI 0), .int (nI 0), .int (nI 0), .null]) := g36
  have hF := hF.tr f35 (mm_ic 0 rfl mm_i0)
  refine lv_aload_n hx hb dX3_init_9 rfl (lv_at hl 0 rfl) ?_
  refine lv_iload_n hx hb dX3_init_10 rfl (lv_at hl 2 rfl) ?_
  refine mm_putF S hC hR (C := RX3) (T := TX3) (N := 5) (ref := "ForkWatch$Operation") 1 h1 inRX3 rfl tyX3_ok nmX3 (by decide) (by decide +kernel) (fun _ h9 => h9) rfl hin rfl rfl rfl (Nat.le_of_ble_eq_true rfl) dX3_init_11 (fun H locs M37 g39 f38 hR => ?_)
  have h1 : M37 O = some (ob 4 [.int x, .int (nI cl), .int (nI 0), .int (nI 0), .null]) := g39
  have hF := hF.tr f38 (mm_ic 0 rfl mm_i0)
  refine lv_aload_n hx hb dX3_init_14 rfl (lv_at hl 0 rfl) ?_
  refine lv_iload_n hx hb dX3_init_15 rfl (lv_at hl 3 rfl) ?_
  refine mm_putF S hC hR (C := RX3) (T := TX3) (N := 5) (ref := "ForkWatch$Operation") 2 h1 inRX3 rfl tyX3_ok nmX3 (by decide) (by decide +kernel) (fun _ h9 => h9) rfl hin rfl rfl rfl (Nat.le_of_ble_eq_true rfl) dX3_init_16 (fun H locs M40 g42 f41 hR => ?_)
  have h1 : M40 O = some (ob 4 [.int x, .int (nI cl), .int (nI nu), .int (nI 0), .null]) := g42
  have hF := hF.tr f41 (mm_ic 0 rfl mm_i0)
  refine lv_aload_n hx hb dX3_init_19 rfl (lv_at hl 0 rfl) ?_
  refine lv_iload hx hb dX3_init_20 (lv_at hl 4 rfl) ?_
  refine mm_putF S hC hR (C := RX3) (T := TX3) (N := 5) (ref := "ForkWatch$Operation") 3 h1 inRX3 rfl tyX3_ok nmX3 (by decide) (by decide +kernel) (fun _ h9 => h9) rfl hin rfl rfl rfl (Nat.le_of_ble_eq_true rfl) dX3_init_22 (fun H locs M43 g45 f44 hR => ?_)
  have h1 : M43 O = some (ob 4 [.int x, .int (nI cl), .int (nI nu), .int (nI fi), .null]) := g45
  have hF := hF.tr f44 (mm_ic 0 rfl mm_i0)
  refine lv_aload_n hx hb dX3_init_25 rfl (lv_at hl 0 rfl) ?_
  refine lv_aload hx hb dX3_init_26 (lv_at hl 5 rfl) ?_
  refine mm_putF S hC hR (C := RX3) (T := TX3) (N := 5) (ref := "ForkWatch$Operation") 4 h1 inRX3 rfl tyX3_ok nmX3 (by decide) (by decide +kernel) (fun _ h9 => h9) rfl hin rfl rfl rfl (Nat.le_of_ble_eq_true rfl) dX3_init_28 (fun H locs M46 g48 f47 hR => ?_)
  have h1 : M46 O = some (ob 4 [.int x, .int (nI cl), .int (nI nu), .int (nI fi), .ref y]) := g48
  have hF := hF.tr f47 (mm_ic 0 rfl mm_i0)
  exact mm_vret S hr hlocks hR ⟨h1, hF⟩ dX3_init_31

set_option maxHeartbeats 4000000 in
set_option maxRecDepth 100000 in
/-- isCountedBy(statement) -/
theorem c_X3_isCountedBy (l : Launch) (G : mm_G) (M : mm_M) (sz : Nat) (O h b cl nu fi y : Nat) (x : Int32) (f : Nat → Int32) (h0 : M O = some (ob 4 [.int x, .int (nI cl), .int (nI nu), .int (nI fi), .ref y])) (h1 : M h = some (ob 6 [.ref b])) (h2 : M b = some (ia G 84 f)) (hcl : cl < 4) : mm_i l yX3_isCountedBy wsX3_isCountedBy ({ frames := 1, cells := 0, slots := 0, locals := 30 } : Room) G ([.ref O, .ref h] : List Value) M sz (fun r M' => bq r ((nI nu).toInt64 ≤ ct f cl) ∧ mm_fr [] M M') := by
  refine mm_enter (cc := cX3_isCountedBy) (maxL := 2) (ret := (some .boolean)) _ (by decide) rfl (Nat.le_of_ble_eq_true rfl) ?_
  intro p0 e0 s m0 be0 me0 c0 ls S hr hlocks hname hA hC hR hl
  have hx := S.1
  have hb := S.2.1
  have hl : lv_has ls 2 [(0, .ref O), (1, .ref h)] := hl
  have inRX3 : ∀ w ∈ wsX30, w ∈ wsX3_isCountedBy := by decide +kernel
  have inRX5 : ∀ w ∈ wsX50, w ∈ wsX3_isCountedBy := by decide +kernel
  have hF : mm_fr [] M M := mm_fr.rf
  refine lv_aload_n hx hb dX3_isCountedBy_0 rfl (lv_at hl 0 rfl) ?_
  refine mm_get S hC hR (C := RX3) (T := TX3) (N := 5) (ref := "ForkWatch$Operation") (v := .int (nI nu)) 2 h0 inRX3 rfl (by decide) (by decide +kernel) (fun _ h9 => h9) rfl dX3_isCountedBy_1 ?_
  refine lv_i2l hx hb dX3_isCountedBy_4 rfl ?_
  refine lv_aload_n hx hb dX3_isCountedBy_5 rfl (lv_at hl 1 rfl) ?_
  refine lv_aload_n hx hb dX3_isCountedBy_6 rfl (lv_at hl 0 rfl) ?_
  refine mm_get S hC hR (C := RX3) (T := TX3) (N := 5) (ref := "ForkWatch$Operation") (v := .int (nI cl)) 1 h0 inRX3 rfl (by decide) (by decide +kernel) (fun _ h9 => h9) rfl dX3_isCountedBy_7 ?_
  refine mm_calll hA hR (va_runV (As := [.int (nI cl)]) (rest := [.long ((nI nu).toInt64)]) S (c_X5_countOf l G M _ h b cl f h1 h2 hcl) (cwV 1 S.2.2.2.2 gX3_isCountedBy_X5_countOf rfl rfl rfl (by decide +kernel) ⟨Nat.le_of_ble_eq_true rfl, Nat.le_of_ble_eq_true rfl⟩) (mm_preV hC hA hR _ h1 rfl) rfl rfl hl.1 rfl (lv_room (Nat.le_of_ble_eq_true rfl)) dX3_isCountedBy_10 ⟨Nat.le_of_ble_eq_true rfl, Nat.le_of_ble_eq_true rfl⟩) (fun r49 M50 H locs hp hR => ?_)
  obtain ⟨e1, ff⟩ := hp
  subst e1
  have h0 := ff.at h0 mm_n0
  have h1 := ff.at h1 mm_n0
  have h2 := ff.at h2 mm_n0
  have hF := hF.tr ff mm_i0
  refine W.lcmp hx hb dX3_isCountedBy_13 ?_
  refine lv_if_gt (tgt := 21) hx hb dX3_isCountedBy_14 (by decide) (fun c1 => ?_) (fun c1 => ?_)
  · skip
    have c1 := (lg_cmp_gt _ _).mp c1
    refine lv_iconst (v := nI 0) hx hb dX3_isCountedBy_21 (by decide) ?_
    exact mm_zret S hr hlocks (by decide) hR ⟨Or.inr ⟨rfl, fun z => absurd z (Int64.not_le.mpr c1)⟩, hF⟩ dX3_isCountedBy_22
  · skip
    have c1 : (nI nu).toInt64 ≤ ct f cl := Int64.not_lt.mp (fun z => c1 ((lg_cmp_gt _ _).mpr z))
    refine lv_iconst (v := nI 1) hx hb dX3_isCountedBy_17 (by decide) ?_
    refine lv_goto (tgt := 22) hx hb dX3_isCountedBy_18 (by decide) ?_
    exact mm_zret S hr hlocks (by decide) hR ⟨Or.inl ⟨rfl, c1⟩, hF⟩ dX3_isCountedBy_22
