theorem mdf_I {l : List Nat} (h : l.Nodup) (hl : l.length = 17) : yI (fun r => l.getD r 0) := by
  intro i j hi hj e
  have e : l.getD i 0 = l.getD j 0 := e
  rw [List.getD_eq_getElem?_getD, List.getD_eq_getElem?_getD, List.getElem?_eq_getElem (by omega), List.getElem?_eq_getElem (by omega)] at e
  exact (List.getElem_inj h).mp e
theorem s0_by {c : Nat} (hc : c < 4) : b20 (s0 c) := by
  intro i _
  unfold s0 upd
  split
  · exact byt_nI c (by omega)
  · show (0 : Int32) &&& nI 255 = 0
    decide

set_option maxHeartbeats 4000000 in
set_option maxRecDepth 100000 in
/-- ForkWatchModel() -/
theorem c_X9_init (l : Launch) (G : mm_G) (M : mm_M) (sz : Nat) (X : Nat) (h0 : M X = some (ob 10 [.null, .null, .null, .null, .null, .null, .int (nI 0), .null, .null, .int (nI 0), .null, .int (nI 0), .int (nI 0), .int (nI 0), .null, .int (nI 0), .null, .null, .null, .null, .null, .null, .int (nI 0)]))  : mm_v l yX9_init wsX9_init ({ frames := 6, cells := 16, slots := 4720, locals := 280 } : Room) G ([.ref X] : List Value) M sz (fun M' => ∃ md : Nat → Nat, md 0 = X ∧ yI md ∧ (∀ r, 1 ≤ r → r < 17 → M (md r) = none) ∧ yA G M' md 0 0 (nI 0) (nI 0) (fun _ => 0) (fun _ => 0) (fun _ => 0) (fun c => sgn (rtn (fun _ => 0) (fun _ => 0)) (s0 c)) 1 (fun _ c => va_cpy (sgn (rtn (fun _ => 0) (fun _ => 0)) (s0 c)) (s0 c) 0 0 84) (fun _ _ => 0) (fun _ _ => 0) ∧ mm_fr [X] M M') := by
  refine mm_enter (cc := cX9_init) (maxL := 3) (ret := none) _ (by decide) rfl (Nat.le_of_ble_eq_true rfl) ?_
  intro p0 e0 s m0 be0 me0 c0 ls S hr hlocks hname hA hC hR hl
  have hx := S.1
  have hb := S.2.1
  have hl : lv_has ls 3 [(0, .ref X)] := hl
  have hin : me0.name = "<init>" := hname
  have inRX9 : ∀ w ∈ wsX90, w ∈ wsX9_init := by decide +kernel
  have hF : mm_fr [X] M M := mm_fr.rf
  refine lv_aload_n hx hb dX9_init_0 rfl (lv_at hl 0 rfl) ?_
  refine W.objInit hx hb S.2.2.2.1 (S.2.2.2.2 (.methodLink RX9 1 objectInit) (by decide +kernel)) (S.2.2.2.2 (.instanceMethod objectInit) (by decide +kernel)) (S.2.2.2.2 (.code objectInit ⟨#[0xb1]⟩ 1 none) (by decide +kernel)) rfl (by rw [S.2.2.1]; exact hl.1) rfl dX9_init_1 (Nat.le_of_ble_eq_true rfl) (Nat.le_of_ble_eq_true rfl) ?_
  refine W.eq (g2 := F0 m0 4 ls []) rfl ?_
  refine lv_aload_n hx hb dX9_init_4 rfl (lv_at hl 0 rfl) ?_
  refine lv_bipush (v := nI 64) hx hb dX9_init_5 (by decide) ?_
  refine mm_newi S hC hA hR (by decide +kernel) (n := 64) (by omega) (Nat.le_of_ble_eq_true rfl) (Nat.le_of_ble_eq_true rfl) dX9_init_7 (fun q1 H M1 z3 h1 f2 hR => ?_)
  have n_X_q1 : dif X q1 := mm_nenew h0 z3
  have nn_q1 : M q1 = none := hF.none z3 (mm_oc h0 mm_o0)
  have h0 := f2.at h0 mm_n0
  have h1 : M1 q1 = some (ia G 64 (fun _ => 0)) := h1
  have hF := hF.tr f2 mm_i0
  have hk : ∀ j, j < 0 → (fun _ => (0 : Int32)) j = k_round j := (fun j hj => absurd hj (Nat.not_lt_zero j))
  refine lv_dup hx hb dX9_init_9 rfl ?_
  refine lv_iconst (v := nI 0) hx hb dX9_init_10 (by decide) ?_
  refine lv_ldc (v := nI 1116352408) hx hb S.2.2.2.1 (S.2.2.2.2 (.constant RX9 7 (nI 1116352408)) (by decide +kernel)) dX9_init_11 ?_
  refine mm_iast S hC hR h1 (j := 0) (by omega) (by omega) dX9_init_13 (fun H locs M4 g6 f5 hR => ?_)
  have h0 := f5.at h0 (mm_nc n_X_q1 mm_n0)
  have h1 : M4 q1 = some (ia G 64 (upd (fun _ => 0) 0 (nI 1116352408))) := g6
  have hF := hF.tr f5 (mm_in nn_q1 mm_i0)
  obtain ⟨tb7, etb7⟩ : ∃ z : Nat → Int32, z = upd (fun _ => 0) 0 (nI 1116352408) := ⟨_, rfl⟩
  rw [← etb7] at h1
  have hk : ∀ j, j < 1 → tb7 j = k_round j := by rw [etb7]; exact mt_s hk (show (nI 1116352408) = k_round 0 from by decide)
  refine lv_dup hx hb dX9_init_14 rfl ?_
  refine lv_iconst (v := nI 1) hx hb dX9_init_15 (by decide) ?_
  refine lv_ldc (v := nI 1899447441) hx hb S.2.2.2.1 (S.2.2.2.2 (.constant RX9 8 (nI 1899447441)) (by decide +kernel)) dX9_init_16 ?_
  refine mm_iast S hC hR h1 (j := 1) (by omega) (by omega) dX9_init_18 (fun H locs M8 g10 f9 hR => ?_)
  have h0 := f9.at h0 (mm_nc n_X_q1 mm_n0)
  have h1 : M8 q1 = some (ia G 64 (upd tb7 1 (nI 1899447441))) := g10
  have hF := hF.tr f9 (mm_in nn_q1 mm_i0)
  obtain ⟨tb11, etb11⟩ : ∃ z : Nat → Int32, z = upd tb7 1 (nI 1899447441) := ⟨_, rfl⟩
  rw [← etb11] at h1
  have hk : ∀ j, j < 2 → tb11 j = k_round j := by rw [etb11]; exact mt_s hk (show (nI 1899447441) = k_round 1 from by decide)
  refine lv_dup hx hb dX9_init_19 rfl ?_
  refine lv_iconst (v := nI 2) hx hb dX9_init_20 (by decide) ?_
  refine lv_ldc (v := -1245643825) hx hb S.2.2.2.1 (S.2.2.2.2 (.constant RX9 9 (-1245643825)) (by decide +kernel)) dX9_init_21 ?_
  refine mm_iast S hC hR h1 (j := 2) (by omega) (by omega) dX9_init_23 (fun H locs M12 g14 f13 hR => ?_)
  have h0 := f13.at h0 (mm_nc n_X_q1 mm_n0)
  have h1 : M12 q1 = some (ia G 64 (upd tb11 2 (-1245643825))) := g14
  have hF := hF.tr f13 (mm_in nn_q1 mm_i0)
  obtain ⟨tb15, etb15⟩ : ∃ z : Nat → Int32, z = upd tb11 2 (-1245643825) := ⟨_, rfl⟩
  rw [← etb15] at h1
  have hk : ∀ j, j < 3 → tb15 j = k_round j := by rw [etb15]; exact mt_s hk (show (-1245643825) = k_round 2 from by decide)
  refine lv_dup hx hb dX9_init_24 rfl ?_
  refine lv_iconst (v := nI 3) hx hb dX9_init_25 (by decide) ?_
  refine lv_ldc (v := -373957723) hx hb S.2.2.2.1 (S.2.2.2.2 (.constant RX9 10 (-373957723)) (by decide +kernel)) dX9_init_26 ?_
  refine mm_iast S hC hR h1 (j := 3) (by omega) (by omega) dX9_init_28 (fun H locs M16 g18 f17 hR => ?_)
  have h0 := f17.at h0 (mm_nc n_X_q1 mm_n0)
  have h1 : M16 q1 = some (ia G 64 (upd tb15 3 (-373957723))) := g18
  have hF := hF.tr f17 (mm_in nn_q1 mm_i0)
  obtain ⟨tb19, etb19⟩ : ∃ z : Nat → Int32, z = upd tb15 3 (-373957723) := ⟨_, rfl⟩
  rw [← etb19] at h1
  have hk : ∀ j, j < 4 → tb19 j = k_round j := by rw [etb19]; exact mt_s hk (show (-373957723) = k_round 3 from by decide)
  refine lv_dup hx hb dX9_init_29 rfl ?_
  refine lv_iconst (v := nI 4) hx hb dX9_init_30 (by decide) ?_
  refine lv_ldc (v := nI 961987163) hx hb S.2.2.2.1 (S.2.2.2.2 (.constant RX9 11 (nI 961987163)) (by decide +kernel)) dX9_init_31 ?_
  refine mm_iast S hC hR h1 (j := 4) (by omega) (by omega) dX9_init_33 (fun H locs M20 g22 f21 hR => ?_)
  have h0 := f21.at h0 (mm_nc n_X_q1 mm_n0)
  have h1 : M20 q1 = some (ia G 64 (upd tb19 4 (nI 961987163))) := g22
  have hF := hF.tr f21 (mm_in nn_q1 mm_i0)
  obtain ⟨tb23, etb23⟩ : ∃ z : Nat → Int32, z = upd tb19 4 (nI 961987163) := ⟨_, rfl⟩
  rw [← etb23] at h1
  have hk : ∀ j, j < 5 → tb23 j = k_round j := by rw [etb23]; exact mt_s hk (show (nI 961987163) = k_round 4 from by decide)
  refine lv_dup hx hb dX9_init_34 rfl ?_
  refine lv_iconst (v := nI 5) hx hb dX9_init_35 (by decide) ?_
  refine lv_ldc (v := nI 1508970993) hx hb S.2.2.2.1 (S.2.2.2.2 (.constant RX9 12 (nI 1508970993)) (by decide +kernel)) dX9_init_36 ?_
  refine mm_iast S hC hR h1 (j := 5) (by omega) (by omega) dX9_init_38 (fun H locs M24 g26 f25 hR => ?_)
  have h0 := f25.at h0 (mm_nc n_X_q1 mm_n0)
  have h1 : M24 q1 = some (ia G 64 (upd tb23 5 (nI 1508970993))) := g26
  have hF := hF.tr f25 (mm_in nn_q1 mm_i0)
  obtain ⟨tb27, etb27⟩ : ∃ z : Nat → Int32, z = upd tb23 5 (nI 1508970993) := ⟨_, rfl⟩
  rw [← etb27] at h1
  have hk : ∀ j, j < 6 → tb27 j = k_round j := by rw [etb27]; exact mt_s hk (show (nI 1508970993) = k_round 5 from by decide)
  refine lv_dup hx hb dX9_init_39 rfl ?_
  refine lv_bipush (v := nI 6) hx hb dX9_init_40 (by decide) ?_
  refine lv_ldc (v := -1841331548) hx hb S.2.2.2.1 (S.2.2.2.2 (.constant RX9 13 (-1841331548)) (by decide +kernel)) dX9_init_42 ?_
  refine mm_iast S hC hR h1 (j := 6) (by omega) (by omega) dX9_init_44 (fun H locs M28 g30 f29 hR => ?_)
  have h0 := f29.at h0 (mm_nc n_X_q1 mm_n0)
  have h1 : M28 q1 = some (ia G 64 (upd tb27 6 (-1841331548))) := g30
  have hF := hF.tr f29 (mm_in nn_q1 mm_i0)
  obtain ⟨tb31, etb31⟩ : ∃ z : Nat → Int32, z = upd tb27 6 (-1841331548) := ⟨_, rfl⟩
  rw [← etb31] at h1
  have hk : ∀ j, j < 7 → tb31 j = k_round j := by rw [etb31]; exact mt_s hk (show (-1841331548) = k_round 6 from by decide)
  refine lv_dup hx hb dX9_init_45 rfl ?_
  refine lv_bipush (v := nI 7) hx hb dX9_init_46 (by decide) ?_
  refine lv_ldc (v := -1424204075) hx hb S.2.2.2.1 (S.2.2.2.2 (.constant RX9 14 (-1424204075)) (by decide +kernel)) dX9_init_48 ?_
  refine mm_iast S hC hR h1 (j := 7) (by omega) (by omega) dX9_init_50 (fun H locs M32 g34 f33 hR => ?_)
  have h0 := f33.at h0 (mm_nc n_X_q1 mm_n0)
  have h1 : M32 q1 = some (ia G 64 (upd tb31 7 (-1424204075))) := g34
  have hF := hF.tr f33 (mm_in nn_q1 mm_i0)
  obtain ⟨tb35, etb35⟩ : ∃ z : Nat → Int32, z = upd tb31 7 (-1424204075) := ⟨_, rfl⟩
  rw [← etb35] at h1
  have hk : ∀ j, j < 8 → tb35 j = k_round j := by rw [etb35]; exact mt_s hk (show (-1424204075) = k_round 7 from by decide)
  refine lv_dup hx hb dX9_init_51 rfl ?_
  refine lv_bipush (v := nI 8) hx hb dX9_init_52 (by decide) ?_
  refine lv_ldc (v := -670586216) hx hb S.2.2.2.1 (S.2.2.2.2 (.constant RX9 15 (-670586216)) (by decide +kernel)) dX9_init_54 ?_
  refine mm_iast S hC hR h1 (j := 8) (by omega) (by omega) dX9_init_56 (fun H locs M36 g38 f37 hR => ?_)
  have h0 := f37.at h0 (mm_nc n_X_q1 mm_n0)
  have h1 : M36 q1 = some (ia G 64 (upd tb35 8 (-670586216))) := g38
  have hF := hF.tr f37 (mm_in nn_q1 mm_i0)
  obtain ⟨tb39, etb39⟩ : ∃ z : Nat → Int32, z = upd tb35 8 (-670586216) := ⟨_, rfl⟩
  rw [← etb39] at h1
  have hk : ∀ j, j < 9 → tb39 j = k_round j := by rw [etb39]; exact mt_s hk (show (-670586216) = k_round 8 from by decide)
  refine lv_dup hx hb dX9_init_57 rfl ?_
  refine lv_bipush (v := nI 9) hx hb dX9_init_58 (by decide) ?_
  refine lv_ldc (v := nI 310598401) hx hb S.2.2.2.1 (S.2.2.2.2 (.constant RX9 16 (nI 310598401)) (by decide +kernel)) dX9_init_60 ?_
  refine mm_iast S hC hR h1 (j := 9) (by omega) (by omega) dX9_init_62 (fun H locs M40 g42 f41 hR => ?_)
  have h0 := f41.at h0 (mm_nc n_X_q1 mm_n0)
  have h1 : M40 q1 = some (ia G 64 (upd tb39 9 (nI 310598401))) := g42
  have hF := hF.tr f41 (mm_in nn_q1 mm_i0)
  obtain ⟨tb43, etb43⟩ : ∃ z : Nat → Int32, z = upd tb39 9 (nI 310598401) := ⟨_, rfl⟩
  rw [← etb43] at h1
  have hk : ∀ j, j < 10 → tb43 j = k_round j := by rw [etb43]; exact mt_s hk (show (nI 310598401) = k_round 9 from by decide)
  refine lv_dup hx hb dX9_init_63 rfl ?_
  refine lv_bipush (v := nI 10) hx hb dX9_init_64 (by decide) ?_
  refine lv_ldc (v := nI 607225278) hx hb S.2.2.2.1 (S.2.2.2.2 (.constant RX9 17 (nI 607225278)) (by decide +kernel)) dX9_init_66 ?_
  refine mm_iast S hC hR h1 (j := 10) (by omega) (by omega) dX9_init_68 (fun H locs M44 g46 f45 hR => ?_)
  have h0 := f45.at h0 (mm_nc n_X_q1 mm_n0)
  have h1 : M44 q1 = some (ia G 64 (upd tb43 10 (nI 607225278))) := g46
  have hF := hF.tr f45 (mm_in nn_q1 mm_i0)
  obtain ⟨tb47, etb47⟩ : ∃ z : Nat → Int32, z = upd tb43 10 (nI 607225278) := ⟨_, rfl⟩
  rw [← etb47] at h1
  have hk : ∀ j, j < 11 → tb47 j = k_round j := by rw [etb47]; exact mt_s hk (show (nI 607225278) = k_round 10 from by decide)
  refine lv_dup hx hb dX9_init_69 rfl ?_
  refine lv_bipush (v := nI 11) hx hb dX9_init_70 (by decide) ?_
  refine lv_ldc (v := nI 1426881987) hx hb S.2.2.2.1 (S.2.2.2.2 (.constant RX9 18 (nI 1426881987)) (by decide +kernel)) dX9_init_72 ?_
  refine mm_iast S hC hR h1 (j := 11) (by omega) (by omega) dX9_init_74 (fun H locs M48 g50 f49 hR => ?_)
  have h0 := f49.at h0 (mm_nc n_X_q1 mm_n0)
  have h1 : M48 q1 = some (ia G 64 (upd tb47 11 (nI 1426881987))) := g50
  have hF := hF.tr f49 (mm_in nn_q1 mm_i0)
  obtain ⟨tb51, etb51⟩ : ∃ z : Nat → Int32, z = upd tb47 11 (nI 1426881987) := ⟨_, rfl⟩
  rw [← etb51] at h1
  have hk : ∀ j, j < 12 → tb51 j = k_round j := by rw [etb51]; exact mt_s hk (show (nI 1426881987) = k_round 11 from by decide)
  refine lv_dup hx hb dX9_init_75 rfl ?_
  refine lv_bipush (v := nI 12) hx hb dX9_init_76 (by decide) ?_
  refine lv_ldc (v := nI 1925078388) hx hb S.2.2.2.1 (S.2.2.2.2 (.constant RX9 19 (nI 1925078388)) (by decide +kernel)) dX9_init_78 ?_
  refine mm_iast S hC hR h1 (j := 12) (by omega) (by omega) dX9_init_80 (fun H locs M52 g54 f53 hR => ?_)
  have h0 := f53.at h0 (mm_nc n_X_q1 mm_n0)
  have h1 : M52 q1 = some (ia G 64 (upd tb51 12 (nI 1925078388))) := g54
  have hF := hF.tr f53 (mm_in nn_q1 mm_i0)
  obtain ⟨tb55, etb55⟩ : ∃ z : Nat → Int32, z = upd tb51 12 (nI 1925078388) := ⟨_, rfl⟩
  rw [← etb55] at h1
  have hk : ∀ j, j < 13 → tb55 j = k_round j := by rw [etb55]; exact mt_s hk (show (nI 1925078388) = k_round 12 from by decide)
  refine lv_dup hx hb dX9_init_81 rfl ?_
  refine lv_bipush (v := nI 13) hx hb dX9_init_82 (by decide) ?_
  refine lv_ldc (v := -2132889090) hx hb S.2.2.2.1 (S.2.2.2.2 (.constant RX9 20 (-2132889090)) (by decide +kernel)) dX9_init_84 ?_
  refine mm_iast S hC hR h1 (j := 13) (by omega) (by omega) dX9_init_86 (fun H locs M56 g58 f57 hR => ?_)
  have h0 := f57.at h0 (mm_nc n_X_q1 mm_n0)
  have h1 : M56 q1 = some (ia G 64 (upd tb55 13 (-2132889090))) := g58
  have hF := hF.tr f57 (mm_in nn_q1 mm_i0)
  obtain ⟨tb59, etb59⟩ : ∃ z : Nat → Int32, z = upd tb55 13 (-2132889090) := ⟨_, rfl⟩
  rw [← etb59] at h1
  have hk : ∀ j, j < 14 → tb59 j = k_round j := by rw [etb59]; exact mt_s hk (show (-2132889090) = k_round 13 from by decide)
  refine lv_dup hx hb dX9_init_87 rfl ?_
  refine lv_bipush (v := nI 14) hx hb dX9_init_88 (by decide) ?_
  refine lv_ldc (v := -1680079193) hx hb S.2.2.2.1 (S.2.2.2.2 (.constant RX9 21 (-1680079193)) (by decide +kernel)) dX9_init_90 ?_
  refine mm_iast S hC hR h1 (j := 14) (by omega) (by omega) dX9_init_92 (fun H locs M60 g62 f61 hR => ?_)
  have h0 := f61.at h0 (mm_nc n_X_q1 mm_n0)
  have h1 : M60 q1 = some (ia G 64 (upd tb59 14 (-1680079193))) := g62
  have hF := hF.tr f61 (mm_in nn_q1 mm_i0)
  obtain ⟨tb63, etb63⟩ : ∃ z : Nat → Int32, z = upd tb59 14 (-1680079193) := ⟨_, rfl⟩
  rw [← etb63] at h1
  have hk : ∀ j, j < 15 → tb63 j = k_round j := by rw [etb63]; exact mt_s hk (show (-1680079193) = k_round 14 from by decide)
  refine lv_dup hx hb dX9_init_93 rfl ?_
  refine lv_bipush (v := nI 15) hx hb dX9_init_94 (by decide) ?_
  refine lv_ldc (v := -1046744716) hx hb S.2.2.2.1 (S.2.2.2.2 (.constant RX9 22 (-1046744716)) (by decide +kernel)) dX9_init_96 ?_
  refine mm_iast S hC hR h1 (j := 15) (by omega) (by omega) dX9_init_98 (fun H locs M64 g66 f65 hR => ?_)
  have h0 := f65.at h0 (mm_nc n_X_q1 mm_n0)
  have h1 : M64 q1 = some (ia G 64 (upd tb63 15 (-1046744716))) := g66
  have hF := hF.tr f65 (mm_in nn_q1 mm_i0)
  obtain ⟨tb67, etb67⟩ : ∃ z : Nat → Int32, z = upd tb63 15 (-1046744716) := ⟨_, rfl⟩
  rw [← etb67] at h1
  have hk : ∀ j, j < 16 → tb67 j = k_round j := by rw [etb67]; exact mt_s hk (show (-1046744716) = k_round 15 from by decide)
  refine lv_dup hx hb dX9_init_99 rfl ?_
  refine lv_bipush (v := nI 16) hx hb dX9_init_100 (by decide) ?_
  refine lv_ldc (v := -459576895) hx hb S.2.2.2.1 (S.2.2.2.2 (.constant RX9 23 (-459576895)) (by decide +kernel)) dX9_init_102 ?_
  refine mm_iast S hC hR h1 (j := 16) (by omega) (by omega) dX9_init_104 (fun H locs M68 g70 f69 hR => ?_)
  have h0 := f69.at h0 (mm_nc n_X_q1 mm_n0)
  have h1 : M68 q1 = some (ia G 64 (upd tb67 16 (-459576895))) := g70
  have hF := hF.tr f69 (mm_in nn_q1 mm_i0)
  obtain ⟨tb71, etb71⟩ : ∃ z : Nat → Int32, z = upd tb67 16 (-459576895) := ⟨_, rfl⟩
  rw [← etb71] at h1
  have hk : ∀ j, j < 17 → tb71 j = k_round j := by rw [etb71]; exact mt_s hk (show (-459576895) = k_round 16 from by decide)
  refine lv_dup hx hb dX9_init_105 rfl ?_
  refine lv_bipush (v := nI 17) hx hb dX9_init_106 (by decide) ?_
  refine lv_ldc (v := -272742522) hx hb S.2.2.2.1 (S.2.2.2.2 (.constant RX9 24 (-272742522)) (by decide +kernel)) dX9_init_108 ?_
  refine mm_iast S hC hR h1 (j := 17) (by omega) (by omega) dX9_init_110 (fun H locs M72 g74 f73 hR => ?_)
  have h0 := f73.at h0 (mm_nc n_X_q1 mm_n0)
  have h1 : M72 q1 = some (ia G 64 (upd tb71 17 (-272742522))) := g74
  have hF := hF.tr f73 (mm_in nn_q1 mm_i0)
  obtain ⟨tb75, etb75⟩ : ∃ z : Nat → Int32, z = upd tb71 17 (-272742522) := ⟨_, rfl⟩
  rw [← etb75] at h1
  have hk : ∀ j, j < 18 → tb75 j = k_round j := by rw [etb75]; exact mt_s hk (show (-272742522) = k_round 17 from by decide)
  refine lv_dup hx hb dX9_init_111 rfl ?_
  refine lv_bipush (v := nI 18) hx hb dX9_init_112 (by decide) ?_
  refine lv_ldc (v := nI 264347078) hx hb S.2.2.2.1 (S.2.2.2.2 (.constant RX9 25 (nI 264347078)) (by decide +kernel)) dX9_init_114 ?_
  refine mm_iast S hC hR h1 (j := 18) (by omega) (by omega) dX9_init_116 (fun H locs M76 g78 f77 hR => ?_)
  have h0 := f77.at h0 (mm_nc n_X_q1 mm_n0)
  have h1 : M76 q1 = some (ia G 64 (upd tb75 18 (nI 264347078))) := g78
  have hF := hF.tr f77 (mm_in nn_q1 mm_i0)
  obtain ⟨tb79, etb79⟩ : ∃ z : Nat → Int32, z = upd tb75 18 (nI 264347078) := ⟨_, rfl⟩
  rw [← etb79] at h1
  have hk : ∀ j, j < 19 → tb79 j = k_round j := by rw [etb79]; exact mt_s hk (show (nI 264347078) = k_round 18 from by decide)
  refine lv_dup hx hb dX9_init_117 rfl ?_
  refine lv_bipush (v := nI 19) hx hb dX9_init_118 (by decide) ?_
  refine lv_ldc (v := nI 604807628) hx hb S.2.2.2.1 (S.2.2.2.2 (.constant RX9 26 (nI 604807628)) (by decide +kernel)) dX9_init_120 ?_
  refine mm_iast S hC hR h1 (j := 19) (by omega) (by omega) dX9_init_122 (fun H locs M80 g82 f81 hR => ?_)
  have h0 := f81.at h0 (mm_nc n_X_q1 mm_n0)
  have h1 : M80 q1 = some (ia G 64 (upd tb79 19 (nI 604807628))) := g82
  have hF := hF.tr f81 (mm_in nn_q1 mm_i0)
  obtain ⟨tb83, etb83⟩ : ∃ z : Nat → Int32, z = upd tb79 19 (nI 604807628) := ⟨_, rfl⟩
  rw [← etb83] at h1
  have hk : ∀ j, j < 20 → tb83 j = k_round j := by rw [etb83]; exact mt_s hk (show (nI 604807628) = k_round 19 from by decide)
  refine lv_dup hx hb dX9_init_123 rfl ?_
  refine lv_bipush (v := nI 20) hx hb dX9_init_124 (by decide) ?_
  refine lv_ldc (v := nI 770255983) hx hb S.2.2.2.1 (S.2.2.2.2 (.constant RX9 27 (nI 770255983)) (by decide +kernel)) dX9_init_126 ?_
  refine mm_iast S hC hR h1 (j := 20) (by omega) (by omega) dX9_init_128 (fun H locs M84 g86 f85 hR => ?_)
  have h0 := f85.at h0 (mm_nc n_X_q1 mm_n0)
  have h1 : M84 q1 = some (ia G 64 (upd tb83 20 (nI 770255983))) := g86
  have hF := hF.tr f85 (mm_in nn_q1 mm_i0)
  obtain ⟨tb87, etb87⟩ : ∃ z : Nat → Int32, z = upd tb83 20 (nI 770255983) := ⟨_, rfl⟩
  rw [← etb87] at h1
  have hk : ∀ j, j < 21 → tb87 j = k_round j := by rw [etb87]; exact mt_s hk (show (nI 770255983) = k_round 20 from by decide)
  refine lv_dup hx hb dX9_init_129 rfl ?_
  refine lv_bipush (v := nI 21) hx hb dX9_init_130 (by decide) ?_
  refine lv_ldc (v := nI 1249150122) hx hb S.2.2.2.1 (S.2.2.2.2 (.constant RX9 28 (nI 1249150122)) (by decide +kernel)) dX9_init_132 ?_
  refine mm_iast S hC hR h1 (j := 21) (by omega) (by omega) dX9_init_134 (fun H locs M88 g90 f89 hR => ?_)
  have h0 := f89.at h0 (mm_nc n_X_q1 mm_n0)
  have h1 : M88 q1 = some (ia G 64 (upd tb87 21 (nI 1249150122))) := g90
  have hF := hF.tr f89 (mm_in nn_q1 mm_i0)
  obtain ⟨tb91, etb91⟩ : ∃ z : Nat → Int32, z = upd tb87 21 (nI 1249150122) := ⟨_, rfl⟩
  rw [← etb91] at h1
  have hk : ∀ j, j < 22 → tb91 j = k_round j := by rw [etb91]; exact mt_s hk (show (nI 1249150122) = k_round 21 from by decide)
  refine lv_dup hx hb dX9_init_135 rfl ?_
  refine lv_bipush (v := nI 22) hx hb dX9_init_136 (by decide) ?_
  refine lv_ldc (v := nI 1555081692) hx hb S.2.2.2.1 (S.2.2.2.2 (.constant RX9 29 (nI 1555081692)) (by decide +kernel)) dX9_init_138 ?_
  refine mm_iast S hC hR h1 (j := 22) (by omega) (by omega) dX9_init_140 (fun H locs M92 g94 f93 hR => ?_)
  have h0 := f93.at h0 (mm_nc n_X_q1 mm_n0)
  have h1 : M92 q1 = some (ia G 64 (upd tb91 22 (nI 1555081692))) := g94
  have hF := hF.tr f93 (mm_in nn_q1 mm_i0)
  obtain ⟨tb95, etb95⟩ : ∃ z : Nat → Int32, z = upd tb91 22 (nI 1555081692) := ⟨_, rfl⟩
  rw [← etb95] at h1
  have hk : ∀ j, j < 23 → tb95 j = k_round j := by rw [etb95]; exact mt_s hk (show (nI 1555081692) = k_round 22 from by decide)
  refine lv_dup hx hb dX9_init_141 rfl ?_
  refine lv_bipush (v := nI 23) hx hb dX9_init_142 (by decide) ?_
  refine lv_ldc (v := nI 1996064986) hx hb S.2.2.2.1 (S.2.2.2.2 (.constant RX9 30 (nI 1996064986)) (by decide +kernel)) dX9_init_144 ?_
  refine mm_iast S hC hR h1 (j := 23) (by omega) (by omega) dX9_init_146 (fun H locs M96 g98 f97 hR => ?_)
  have h0 := f97.at h0 (mm_nc n_X_q1 mm_n0)
  have h1 : M96 q1 = some (ia G 64 (upd tb95 23 (nI 1996064986))) := g98
  have hF := hF.tr f97 (mm_in nn_q1 mm_i0)
  obtain ⟨tb99, etb99⟩ : ∃ z : Nat → Int32, z = upd tb95 23 (nI 1996064986) := ⟨_, rfl⟩
  rw [← etb99] at h1
  have hk : ∀ j, j < 24 → tb99 j = k_round j := by rw [etb99]; exact mt_s hk (show (nI 1996064986) = k_round 23 from by decide)
  refine lv_dup hx hb dX9_init_147 rfl ?_
  refine lv_bipush (v := nI 24) hx hb dX9_init_148 (by decide) ?_
  refine lv_ldc (v := -1740746414) hx hb S.2.2.2.1 (S.2.2.2.2 (.constant RX9 31 (-1740746414)) (by decide +kernel)) dX9_init_150 ?_
  refine mm_iast S hC hR h1 (j := 24) (by omega) (by omega) dX9_init_152 (fun H locs M100 g102 f101 hR => ?_)
  have h0 := f101.at h0 (mm_nc n_X_q1 mm_n0)
  have h1 : M100 q1 = some (ia G 64 (upd tb99 24 (-1740746414))) := g102
  have hF := hF.tr f101 (mm_in nn_q1 mm_i0)
  obtain ⟨tb103, etb103⟩ : ∃ z : Nat → Int32, z = upd tb99 24 (-1740746414) := ⟨_, rfl⟩
  rw [← etb103] at h1
  have hk : ∀ j, j < 25 → tb103 j = k_round j := by rw [etb103]; exact mt_s hk (show (-1740746414) = k_round 24 from by decide)
  refine lv_dup hx hb dX9_init_153 rfl ?_
  refine lv_bipush (v := nI 25) hx hb dX9_init_154 (by decide) ?_
  refine lv_ldc (v := -1473132947) hx hb S.2.2.2.1 (S.2.2.2.2 (.constant RX9 32 (-1473132947)) (by decide +kernel)) dX9_init_156 ?_
  refine mm_iast S hC hR h1 (j := 25) (by omega) (by omega) dX9_init_158 (fun H locs M104 g106 f105 hR => ?_)
  have h0 := f105.at h0 (mm_nc n_X_q1 mm_n0)
  have h1 : M104 q1 = some (ia G 64 (upd tb103 25 (-1473132947))) := g106
  have hF := hF.tr f105 (mm_in nn_q1 mm_i0)
  obtain ⟨tb107, etb107⟩ : ∃ z : Nat → Int32, z = upd tb103 25 (-1473132947) := ⟨_, rfl⟩
  rw [← etb107] at h1
  have hk : ∀ j, j < 26 → tb107 j = k_round j := by rw [etb107]; exact mt_s hk (show (-1473132947) = k_round 25 from by decide)
  refine lv_dup hx hb dX9_init_159 rfl ?_
  refine lv_bipush (v := nI 26) hx hb dX9_init_160 (by decide) ?_
  refine lv_ldc (v := -1341970488) hx hb S.2.2.2.1 (S.2.2.2.2 (.constant RX9 33 (-1341970488)) (by decide +kernel)) dX9_init_162 ?_
  refine mm_iast S hC hR h1 (j := 26) (by omega) (by omega) dX9_init_164 (fun H locs M108 g110 f109 hR => ?_)
  have h0 := f109.at h0 (mm_nc n_X_q1 mm_n0)
  have h1 : M108 q1 = some (ia G 64 (upd tb107 26 (-1341970488))) := g110
  have hF := hF.tr f109 (mm_in nn_q1 mm_i0)
  obtain ⟨tb111, etb111⟩ : ∃ z : Nat → Int32, z = upd tb107 26 (-1341970488) := ⟨_, rfl⟩
  rw [← etb111] at h1
  have hk : ∀ j, j < 27 → tb111 j = k_round j := by rw [etb111]; exact mt_s hk (show (-1341970488) = k_round 26 from by decide)
  refine lv_dup hx hb dX9_init_165 rfl ?_
  refine lv_bipush (v := nI 27) hx hb dX9_init_166 (by decide) ?_
  refine lv_ldc (v := -1084653625) hx hb S.2.2.2.1 (S.2.2.2.2 (.constant RX9 34 (-1084653625)) (by decide +kernel)) dX9_init_168 ?_
  refine mm_iast S hC hR h1 (j := 27) (by omega) (by omega) dX9_init_170 (fun H locs M112 g114 f113 hR => ?_)
  have h0 := f113.at h0 (mm_nc n_X_q1 mm_n0)
  have h1 : M112 q1 = some (ia G 64 (upd tb111 27 (-1084653625))) := g114
  have hF := hF.tr f113 (mm_in nn_q1 mm_i0)
  obtain ⟨tb115, etb115⟩ : ∃ z : Nat → Int32, z = upd tb111 27 (-1084653625) := ⟨_, rfl⟩
  rw [← etb115] at h1
  have hk : ∀ j, j < 28 → tb115 j = k_round j := by rw [etb115]; exact mt_s hk (show (-1084653625) = k_round 27 from by decide)
  refine lv_dup hx hb dX9_init_171 rfl ?_
  refine lv_bipush (v := nI 28) hx hb dX9_init_172 (by decide) ?_
  refine lv_ldc (v := -958395405) hx hb S.2.2.2.1 (S.2.2.2.2 (.constant RX9 35 (-958395405)) (by decide +kernel)) dX9_init_174 ?_
  refine mm_iast S hC hR h1 (j := 28) (by omega) (by omega) dX9_init_176 (fun H locs M116 g118 f117 hR => ?_)
  have h0 := f117.at h0 (mm_nc n_X_q1 mm_n0)
  have h1 : M116 q1 = some (ia G 64 (upd tb115 28 (-958395405))) := g118
  have hF := hF.tr f117 (mm_in nn_q1 mm_i0)
  obtain ⟨tb119, etb119⟩ : ∃ z : Nat → Int32, z = upd tb115 28 (-958395405) := ⟨_, rfl⟩
  rw [← etb119] at h1
  have hk : ∀ j, j < 29 → tb119 j = k_round j := by rw [etb119]; exact mt_s hk (show (-958395405) = k_round 28 from by decide)
  refine lv_dup hx hb dX9_init_177 rfl ?_
  refine lv_bipush (v := nI 29) hx hb dX9_init_178 (by decide) ?_
  refine lv_ldc (v := -710438585) hx hb S.2.2.2.1 (S.2.2.2.2 (.constant RX9 36 (-710438585)) (by decide +kernel)) dX9_init_180 ?_
  refine mm_iast S hC hR h1 (j := 29) (by omega) (by omega) dX9_init_182 (fun H locs M120 g122 f121 hR => ?_)
  have h0 := f121.at h0 (mm_nc n_X_q1 mm_n0)
  have h1 : M120 q1 = some (ia G 64 (upd tb119 29 (-710438585))) := g122
  have hF := hF.tr f121 (mm_in nn_q1 mm_i0)
  obtain ⟨tb123, etb123⟩ : ∃ z : Nat → Int32, z = upd tb119 29 (-710438585) := ⟨_, rfl⟩
  rw [← etb123] at h1
  have hk : ∀ j, j < 30 → tb123 j = k_round j := by rw [etb123]; exact mt_s hk (show (-710438585) = k_round 29 from by decide)
  refine lv_dup hx hb dX9_init_183 rfl ?_
  refine lv_bipush (v := nI 30) hx hb dX9_init_184 (by decide) ?_
  refine lv_ldc (v := nI 113926993) hx hb S.2.2.2.1 (S.2.2.2.2 (.constant RX9 37 (nI 113926993)) (by decide +kernel)) dX9_init_186 ?_
  refine mm_iast S hC hR h1 (j := 30) (by omega) (by omega) dX9_init_188 (fun H locs M124 g126 f125 hR => ?_)
  have h0 := f125.at h0 (mm_nc n_X_q1 mm_n0)
  have h1 : M124 q1 = some (ia G 64 (upd tb123 30 (nI 113926993))) := g126
  have hF := hF.tr f125 (mm_in nn_q1 mm_i0)
  obtain ⟨tb127, etb127⟩ : ∃ z : Nat → Int32, z = upd tb123 30 (nI 113926993) := ⟨_, rfl⟩
  rw [← etb127] at h1
  have hk : ∀ j, j < 31 → tb127 j = k_round j := by rw [etb127]; exact mt_s hk (show (nI 113926993) = k_round 30 from by decide)
  refine lv_dup hx hb dX9_init_189 rfl ?_
  refine lv_bipush (v := nI 31) hx hb dX9_init_190 (by decide) ?_
  refine lv_ldc (v := nI 338241895) hx hb S.2.2.2.1 (S.2.2.2.2 (.constant RX9 38 (nI 338241895)) (by decide +kernel)) dX9_init_192 ?_
  refine mm_iast S hC hR h1 (j := 31) (by omega) (by omega) dX9_init_194 (fun H locs M128 g130 f129 hR => ?_)
  have h0 := f129.at h0 (mm_nc n_X_q1 mm_n0)
  have h1 : M128 q1 = some (ia G 64 (upd tb127 31 (nI 338241895))) := g130
  have hF := hF.tr f129 (mm_in nn_q1 mm_i0)
  obtain ⟨tb131, etb131⟩ : ∃ z : Nat → Int32, z = upd tb127 31 (nI 338241895) := ⟨_, rfl⟩
  rw [← etb131] at h1
  have hk : ∀ j, j < 32 → tb131 j = k_round j := by rw [etb131]; exact mt_s hk (show (nI 338241895) = k_round 31 from by decide)
  refine lv_dup hx hb dX9_init_195 rfl ?_
  refine lv_bipush (v := nI 32) hx hb dX9_init_196 (by decide) ?_
  refine lv_ldc (v := nI 666307205) hx hb S.2.2.2.1 (S.2.2.2.2 (.constant RX9 39 (nI 666307205)) (by decide +kernel)) dX9_init_198 ?_
  refine mm_iast S hC hR h1 (j := 32) (by omega) (by omega) dX9_init_200 (fun H locs M132 g134 f133 hR => ?_)
  have h0 := f133.at h0 (mm_nc n_X_q1 mm_n0)
  have h1 : M132 q1 = some (ia G 64 (upd tb131 32 (nI 666307205))) := g134
  have hF := hF.tr f133 (mm_in nn_q1 mm_i0)
  obtain ⟨tb135, etb135⟩ : ∃ z : Nat → Int32, z = upd tb131 32 (nI 666307205) := ⟨_, rfl⟩
  rw [← etb135] at h1
  have hk : ∀ j, j < 33 → tb135 j = k_round j := by rw [etb135]; exact mt_s hk (show (nI 666307205) = k_round 32 from by decide)
  refine lv_dup hx hb dX9_init_201 rfl ?_
  refine lv_bipush (v := nI 33) hx hb dX9_init_202 (by decide) ?_
  refine lv_ldc (v := nI 773529912) hx hb S.2.2.2.1 (S.2.2.2.2 (.constant RX9 40 (nI 773529912)) (by decide +kernel)) dX9_init_204 ?_
  refine mm_iast S hC hR h1 (j := 33) (by omega) (by omega) dX9_init_206 (fun H locs M136 g138 f137 hR => ?_)
  have h0 := f137.at h0 (mm_nc n_X_q1 mm_n0)
  have h1 : M136 q1 = some (ia G 64 (upd tb135 33 (nI 773529912))) := g138
  have hF := hF.tr f137 (mm_in nn_q1 mm_i0)
  obtain ⟨tb139, etb139⟩ : ∃ z : Nat → Int32, z = upd tb135 33 (nI 773529912) := ⟨_, rfl⟩
  rw [← etb139] at h1
  have hk : ∀ j, j < 34 → tb139 j = k_round j := by rw [etb139]; exact mt_s hk (show (nI 773529912) = k_round 33 from by decide)
  refine lv_dup hx hb dX9_init_207 rfl ?_
  refine lv_bipush (v := nI 34) hx hb dX9_init_208 (by decide) ?_
  refine lv_ldc (v := nI 1294757372) hx hb S.2.2.2.1 (S.2.2.2.2 (.constant RX9 41 (nI 1294757372)) (by decide +kernel)) dX9_init_210 ?_
  refine mm_iast S hC hR h1 (j := 34) (by omega) (by omega) dX9_init_212 (fun H locs M140 g142 f141 hR => ?_)
  have h0 := f141.at h0 (mm_nc n_X_q1 mm_n0)
  have h1 : M140 q1 = some (ia G 64 (upd tb139 34 (nI 1294757372))) := g142
  have hF := hF.tr f141 (mm_in nn_q1 mm_i0)
  obtain ⟨tb143, etb143⟩ : ∃ z : Nat → Int32, z = upd tb139 34 (nI 1294757372) := ⟨_, rfl⟩
  rw [← etb143] at h1
  have hk : ∀ j, j < 35 → tb143 j = k_round j := by rw [etb143]; exact mt_s hk (show (nI 1294757372) = k_round 34 from by decide)
  refine lv_dup hx hb dX9_init_213 rfl ?_
  refine lv_bipush (v := nI 35) hx hb dX9_init_214 (by decide) ?_
  refine lv_ldc (v := nI 1396182291) hx hb S.2.2.2.1 (S.2.2.2.2 (.constant RX9 42 (nI 1396182291)) (by decide +kernel)) dX9_init_216 ?_
  refine mm_iast S hC hR h1 (j := 35) (by omega) (by omega) dX9_init_218 (fun H locs M144 g146 f145 hR => ?_)
  have h0 := f145.at h0 (mm_nc n_X_q1 mm_n0)
  have h1 : M144 q1 = some (ia G 64 (upd tb143 35 (nI 1396182291))) := g146
  have hF := hF.tr f145 (mm_in nn_q1 mm_i0)
  obtain ⟨tb147, etb147⟩ : ∃ z : Nat → Int32, z = upd tb143 35 (nI 1396182291) := ⟨_, rfl⟩
  rw [← etb147] at h1
  have hk : ∀ j, j < 36 → tb147 j = k_round j := by rw [etb147]; exact mt_s hk (show (nI 1396182291) = k_round 35 from by decide)
  refine lv_dup hx hb dX9_init_219 rfl ?_
  refine lv_bipush (v := nI 36) hx hb dX9_init_220 (by decide) ?_
  refine lv_ldc (v := nI 1695183700) hx hb S.2.2.2.1 (S.2.2.2.2 (.constant RX9 43 (nI 1695183700)) (by decide +kernel)) dX9_init_222 ?_
  refine mm_iast S hC hR h1 (j := 36) (by omega) (by omega) dX9_init_224 (fun H locs M148 g150 f149 hR => ?_)
  have h0 := f149.at h0 (mm_nc n_X_q1 mm_n0)
  have h1 : M148 q1 = some (ia G 64 (upd tb147 36 (nI 1695183700))) := g150
  have hF := hF.tr f149 (mm_in nn_q1 mm_i0)
  obtain ⟨tb151, etb151⟩ : ∃ z : Nat → Int32, z = upd tb147 36 (nI 1695183700) := ⟨_, rfl⟩
  rw [← etb151] at h1
  have hk : ∀ j, j < 37 → tb151 j = k_round j := by rw [etb151]; exact mt_s hk (show (nI 1695183700) = k_round 36 from by decide)
  refine lv_dup hx hb dX9_init_225 rfl ?_
  refine lv_bipush (v := nI 37) hx hb dX9_init_226 (by decide) ?_
  refine lv_ldc (v := nI 1986661051) hx hb S.2.2.2.1 (S.2.2.2.2 (.constant RX9 44 (nI 1986661051)) (by decide +kernel)) dX9_init_228 ?_
  refine mm_iast S hC hR h1 (j := 37) (by omega) (by omega) dX9_init_230 (fun H locs M152 g154 f153 hR => ?_)
  have h0 := f153.at h0 (mm_nc n_X_q1 mm_n0)
  have h1 : M152 q1 = some (ia G 64 (upd tb151 37 (nI 1986661051))) := g154
  have hF := hF.tr f153 (mm_in nn_q1 mm_i0)
  obtain ⟨tb155, etb155⟩ : ∃ z : Nat → Int32, z = upd tb151 37 (nI 1986661051) := ⟨_, rfl⟩
  rw [← etb155] at h1
  have hk : ∀ j, j < 38 → tb155 j = k_round j := by rw [etb155]; exact mt_s hk (show (nI 1986661051) = k_round 37 from by decide)
  refine lv_dup hx hb dX9_init_231 rfl ?_
  refine lv_bipush (v := nI 38) hx hb dX9_init_232 (by decide) ?_
  refine lv_ldc (v := -2117940946) hx hb S.2.2.2.1 (S.2.2.2.2 (.constant RX9 45 (-2117940946)) (by decide +kernel)) dX9_init_234 ?_
  refine mm_iast S hC hR h1 (j := 38) (by omega) (by omega) dX9_init_236 (fun H locs M156 g158 f157 hR => ?_)
  have h0 := f157.at h0 (mm_nc n_X_q1 mm_n0)
  have h1 : M156 q1 = some (ia G 64 (upd tb155 38 (-2117940946))) := g158
  have hF := hF.tr f157 (mm_in nn_q1 mm_i0)
  obtain ⟨tb159, etb159⟩ : ∃ z : Nat → Int32, z = upd tb155 38 (-2117940946) := ⟨_, rfl⟩
  rw [← etb159] at h1
  have hk : ∀ j, j < 39 → tb159 j = k_round j := by rw [etb159]; exact mt_s hk (show (-2117940946) = k_round 38 from by decide)
  refine lv_dup hx hb dX9_init_237 rfl ?_
  refine lv_bipush (v := nI 39) hx hb dX9_init_238 (by decide) ?_
  refine lv_ldc (v := -1838011259) hx hb S.2.2.2.1 (S.2.2.2.2 (.constant RX9 46 (-1838011259)) (by decide +kernel)) dX9_init_240 ?_
  refine mm_iast S hC hR h1 (j := 39) (by omega) (by omega) dX9_init_242 (fun H locs M160 g162 f161 hR => ?_)
  have h0 := f161.at h0 (mm_nc n_X_q1 mm_n0)
  have h1 : M160 q1 = some (ia G 64 (upd tb159 39 (-1838011259))) := g162
  have hF := hF.tr f161 (mm_in nn_q1 mm_i0)
  obtain ⟨tb163, etb163⟩ : ∃ z : Nat → Int32, z = upd tb159 39 (-1838011259) := ⟨_, rfl⟩
  rw [← etb163] at h1
  have hk : ∀ j, j < 40 → tb163 j = k_round j := by rw [etb163]; exact mt_s hk (show (-1838011259) = k_round 39 from by decide)
  refine lv_dup hx hb dX9_init_243 rfl ?_
  refine lv_bipush (v := nI 40) hx hb dX9_init_244 (by decide) ?_
  refine lv_ldc (v := -1564481375) hx hb S.2.2.2.1 (S.2.2.2.2 (.constant RX9 47 (-1564481375)) (by decide +kernel)) dX9_init_246 ?_
  refine mm_iast S hC hR h1 (j := 40) (by omega) (by omega) dX9_init_248 (fun H locs M164 g166 f165 hR => ?_)
  have h0 := f165.at h0 (mm_nc n_X_q1 mm_n0)
  have h1 : M164 q1 = some (ia G 64 (upd tb163 40 (-1564481375))) := g166
  have hF := hF.tr f165 (mm_in nn_q1 mm_i0)
  obtain ⟨tb167, etb167⟩ : ∃ z : Nat → Int32, z = upd tb163 40 (-1564481375) := ⟨_, rfl⟩
  rw [← etb167] at h1
  have hk : ∀ j, j < 41 → tb167 j = k_round j := by rw [etb167]; exact mt_s hk (show (-1564481375) = k_round 40 from by decide)
  refine lv_dup hx hb dX9_init_249 rfl ?_
  refine lv_bipush (v := nI 41) hx hb dX9_init_250 (by decide) ?_
  refine lv_ldc (v := -1474664885) hx hb S.2.2.2.1 (S.2.2.2.2 (.constant RX9 48 (-1474664885)) (by decide +kernel)) dX9_init_252 ?_
  refine mm_iast S hC hR h1 (j := 41) (by omega) (by omega) dX9_init_254 (fun H locs M168 g170 f169 hR => ?_)
  have h0 := f169.at h0 (mm_nc n_X_q1 mm_n0)
  have h1 : M168 q1 = some (ia G 64 (upd tb167 41 (-1474664885))) := g170
  have hF := hF.tr f169 (mm_in nn_q1 mm_i0)
  obtain ⟨tb171, etb171⟩ : ∃ z : Nat → Int32, z = upd tb167 41 (-1474664885) := ⟨_, rfl⟩
  rw [← etb171] at h1
  have hk : ∀ j, j < 42 → tb171 j = k_round j := by rw [etb171]; exact mt_s hk (show (-1474664885) = k_round 41 from by decide)
  refine lv_dup hx hb dX9_init_255 rfl ?_
  refine lv_bipush (v := nI 42) hx hb dX9_init_256 (by decide) ?_
  refine lv_ldc (v := -1035236496) hx hb S.2.2.2.1 (S.2.2.2.2 (.constant RX9 49 (-1035236496)) (by decide +kernel)) dX9_init_258 ?_
  refine mm_iast S hC hR h1 (j := 42) (by omega) (by omega) dX9_init_260 (fun H locs M172 g174 f173 hR => ?_)
  have h0 := f173.at h0 (mm_nc n_X_q1 mm_n0)
  have h1 : M172 q1 = some (ia G 64 (upd tb171 42 (-1035236496))) := g174
  have hF := hF.tr f173 (mm_in nn_q1 mm_i0)
  obtain ⟨tb175, etb175⟩ : ∃ z : Nat → Int32, z = upd tb171 42 (-1035236496) := ⟨_, rfl⟩
  rw [← etb175] at h1
  have hk : ∀ j, j < 43 → tb175 j = k_round j := by rw [etb175]; exact mt_s hk (show (-1035236496) = k_round 42 from by decide)
  refine lv_dup hx hb dX9_init_261 rfl ?_
  refine lv_bipush (v := nI 43) hx hb dX9_init_262 (by decide) ?_
  refine lv_ldc (v := -949202525) hx hb S.2.2.2.1 (S.2.2.2.2 (.constant RX9 50 (-949202525)) (by decide +kernel)) dX9_init_264 ?_
  refine mm_iast S hC hR h1 (j := 43) (by omega) (by omega) dX9_init_266 (fun H locs M176 g178 f177 hR => ?_)
  have h0 := f177.at h0 (mm_nc n_X_q1 mm_n0)
  have h1 : M176 q1 = some (ia G 64 (upd tb175 43 (-949202525))) := g178
  have hF := hF.tr f177 (mm_in nn_q1 mm_i0)
  obtain ⟨tb179, etb179⟩ : ∃ z : Nat → Int32, z = upd tb175 43 (-949202525) := ⟨_, rfl⟩
  rw [← etb179] at h1
  have hk : ∀ j, j < 44 → tb179 j = k_round j := by rw [etb179]; exact mt_s hk (show (-949202525) = k_round 43 from by decide)
  refine lv_dup hx hb dX9_init_267 rfl ?_
  refine lv_bipush (v := nI 44) hx hb dX9_init_268 (by decide) ?_
  refine lv_ldc (v := -778901479) hx hb S.2.2.2.1 (S.2.2.2.2 (.constant RX9 51 (-778901479)) (by decide +kernel)) dX9_init_270 ?_
  refine mm_iast S hC hR h1 (j := 44) (by omega) (by omega) dX9_init_272 (fun H locs M180 g182 f181 hR => ?_)
  have h0 := f181.at h0 (mm_nc n_X_q1 mm_n0)
  have h1 : M180 q1 = some (ia G 64 (upd tb179 44 (-778901479))) := g182
  have hF := hF.tr f181 (mm_in nn_q1 mm_i0)
  obtain ⟨tb183, etb183⟩ : ∃ z : Nat → Int32, z = upd tb179 44 (-778901479) := ⟨_, rfl⟩
  rw [← etb183] at h1
  have hk : ∀ j, j < 45 → tb183 j = k_round j := by rw [etb183]; exact mt_s hk (show (-778901479) = k_round 44 from by decide)
  refine lv_dup hx hb dX9_init_273 rfl ?_
  refine lv_bipush (v := nI 45) hx hb dX9_init_274 (by decide) ?_
  refine lv_ldc (v := -694614492) hx hb S.2.2.2.1 (S.2.2.2.2 (.constant RX9 52 (-694614492)) (by decide +kernel)) dX9_init_276 ?_
  refine mm_iast S hC hR h1 (j := 45) (by omega) (by omega) dX9_init_278 (fun H locs M184 g186 f185 hR => ?_)
  have h0 := f185.at h0 (mm_nc n_X_q1 mm_n0)
  have h1 : M184 q1 = some (ia G 64 (upd tb183 45 (-694614492))) := g186
  have hF := hF.tr f185 (mm_in nn_q1 mm_i0)
  obtain ⟨tb187, etb187⟩ : ∃ z : Nat → Int32, z = upd tb183 45 (-694614492) := ⟨_, rfl⟩
  rw [← etb187] at h1
  have hk : ∀ j, j < 46 → tb187 j = k_round j := by rw [etb187]; exact mt_s hk (show (-694614492) = k_round 45 from by decide)
  refine lv_dup hx hb dX9_init_279 rfl ?_
  refine lv_bipush (v := nI 46) hx hb dX9_init_280 (by decide) ?_
  refine lv_ldc (v := -200395387) hx hb S.2.2.2.1 (S.2.2.2.2 (.constant RX9 53 (-200395387)) (by decide +kernel)) dX9_init_282 ?_
  refine mm_iast S hC hR h1 (j := 46) (by omega) (by omega) dX9_init_284 (fun H locs M188 g190 f189 hR => ?_)
  have h0 := f189.at h0 (mm_nc n_X_q1 mm_n0)
  have h1 : M188 q1 = some (ia G 64 (upd tb187 46 (-200395387))) := g190
  have hF := hF.tr f189 (mm_in nn_q1 mm_i0)
  obtain ⟨tb191, etb191⟩ : ∃ z : Nat → Int32, z = upd tb187 46 (-200395387) := ⟨_, rfl⟩
  rw [← etb191] at h1
  have hk : ∀ j, j < 47 → tb191 j = k_round j := by rw [etb191]; exact mt_s hk (show (-200395387) = k_round 46 from by decide)
  refine lv_dup hx hb dX9_init_285 rfl ?_
  refine lv_bipush (v := nI 47) hx hb dX9_init_286 (by decide) ?_
  refine lv_ldc (v := nI 275423344) hx hb S.2.2.2.1 (S.2.2.2.2 (.constant RX9 54 (nI 275423344)) (by decide +kernel)) dX9_init_288 ?_
  refine mm_iast S hC hR h1 (j := 47) (by omega) (by omega) dX9_init_290 (fun H locs M192 g194 f193 hR => ?_)
  have h0 := f193.at h0 (mm_nc n_X_q1 mm_n0)
  have h1 : M192 q1 = some (ia G 64 (upd tb191 47 (nI 275423344))) := g194
  have hF := hF.tr f193 (mm_in nn_q1 mm_i0)
  obtain ⟨tb195, etb195⟩ : ∃ z : Nat → Int32, z = upd tb191 47 (nI 275423344) := ⟨_, rfl⟩
  rw [← etb195] at h1
  have hk : ∀ j, j < 48 → tb195 j = k_round j := by rw [etb195]; exact mt_s hk (show (nI 275423344) = k_round 47 from by decide)
  refine lv_dup hx hb dX9_init_291 rfl ?_
  refine lv_bipush (v := nI 48) hx hb dX9_init_292 (by decide) ?_
  refine lv_ldc (v := nI 430227734) hx hb S.2.2.2.1 (S.2.2.2.2 (.constant RX9 55 (nI 430227734)) (by decide +kernel)) dX9_init_294 ?_
  refine mm_iast S hC hR h1 (j := 48) (by omega) (by omega) dX9_init_296 (fun H locs M196 g198 f197 hR => ?_)
  have h0 := f197.at h0 (mm_nc n_X_q1 mm_n0)
  have h1 : M196 q1 = some (ia G 64 (upd tb195 48 (nI 430227734))) := g198
  have hF := hF.tr f197 (mm_in nn_q1 mm_i0)
  obtain ⟨tb199, etb199⟩ : ∃ z : Nat → Int32, z = upd tb195 48 (nI 430227734) := ⟨_, rfl⟩
  rw [← etb199] at h1
  have hk : ∀ j, j < 49 → tb199 j = k_round j := by rw [etb199]; exact mt_s hk (show (nI 430227734) = k_round 48 from by decide)
  refine lv_dup hx hb dX9_init_297 rfl ?_
  refine lv_bipush (v := nI 49) hx hb dX9_init_298 (by decide) ?_
  refine lv_ldc (v := nI 506948616) hx hb S.2.2.2.1 (S.2.2.2.2 (.constant RX9 56 (nI 506948616)) (by decide +kernel)) dX9_init_300 ?_
  refine mm_iast S hC hR h1 (j := 49) (by omega) (by omega) dX9_init_302 (fun H locs M200 g202 f201 hR => ?_)
  have h0 := f201.at h0 (mm_nc n_X_q1 mm_n0)
  have h1 : M200 q1 = some (ia G 64 (upd tb199 49 (nI 506948616))) := g202
  have hF := hF.tr f201 (mm_in nn_q1 mm_i0)
  obtain ⟨tb203, etb203⟩ : ∃ z : Nat → Int32, z = upd tb199 49 (nI 506948616) := ⟨_, rfl⟩
  rw [← etb203] at h1
  have hk : ∀ j, j < 50 → tb203 j = k_round j := by rw [etb203]; exact mt_s hk (show (nI 506948616) = k_round 49 from by decide)
  refine lv_dup hx hb dX9_init_303 rfl ?_
  refine lv_bipush (v := nI 50) hx hb dX9_init_304 (by decide) ?_
  refine lv_ldc (v := nI 659060556) hx hb S.2.2.2.1 (S.2.2.2.2 (.constant RX9 57 (nI 659060556)) (by decide +kernel)) dX9_init_306 ?_
  refine mm_iast S hC hR h1 (j := 50) (by omega) (by omega) dX9_init_308 (fun H locs M204 g206 f205 hR => ?_)
  have h0 := f205.at h0 (mm_nc n_X_q1 mm_n0)
  have h1 : M204 q1 = some (ia G 64 (upd tb203 50 (nI 659060556))) := g206
  have hF := hF.tr f205 (mm_in nn_q1 mm_i0)
  obtain ⟨tb207, etb207⟩ : ∃ z : Nat → Int32, z = upd tb203 50 (nI 659060556) := ⟨_, rfl⟩
  rw [← etb207] at h1
  have hk : ∀ j, j < 51 → tb207 j = k_round j := by rw [etb207]; exact mt_s hk (show (nI 659060556) = k_round 50 from by decide)
  refine lv_dup hx hb dX9_init_309 rfl ?_
  refine lv_bipush (v := nI 51) hx hb dX9_init_310 (by decide) ?_
  refine lv_ldc (v := nI 883997877) hx hb S.2.2.2.1 (S.2.2.2.2 (.constant RX9 58 (nI 883997877)) (by decide +kernel)) dX9_init_312 ?_
  refine mm_iast S hC hR h1 (j := 51) (by omega) (by omega) dX9_init_314 (fun H locs M208 g210 f209 hR => ?_)
  have h0 := f209.at h0 (mm_nc n_X_q1 mm_n0)
  have h1 : M208 q1 = some (ia G 64 (upd tb207 51 (nI 883997877))) := g210
  have hF := hF.tr f209 (mm_in nn_q1 mm_i0)
  obtain ⟨tb211, etb211⟩ : ∃ z : Nat → Int32, z = upd tb207 51 (nI 883997877) := ⟨_, rfl⟩
  rw [← etb211] at h1
  have hk : ∀ j, j < 52 → tb211 j = k_round j := by rw [etb211]; exact mt_s hk (show (nI 883997877) = k_round 51 from by decide)
  refine lv_dup hx hb dX9_init_315 rfl ?_
  refine lv_bipush (v := nI 52) hx hb dX9_init_316 (by decide) ?_
  refine lv_ldc (v := nI 958139571) hx hb S.2.2.2.1 (S.2.2.2.2 (.constant RX9 59 (nI 958139571)) (by decide +kernel)) dX9_init_318 ?_
  refine mm_iast S hC hR h1 (j := 52) (by omega) (by omega) dX9_init_320 (fun H locs M212 g214 f213 hR => ?_)
  have h0 := f213.at h0 (mm_nc n_X_q1 mm_n0)
  have h1 : M212 q1 = some (ia G 64 (upd tb211 52 (nI 958139571))) := g214
  have hF := hF.tr f213 (mm_in nn_q1 mm_i0)
  obtain ⟨tb215, etb215⟩ : ∃ z : Nat → Int32, z = upd tb211 52 (nI 958139571) := ⟨_, rfl⟩
  rw [← etb215] at h1
  have hk : ∀ j, j < 53 → tb215 j = k_round j := by rw [etb215]; exact mt_s hk (show (nI 958139571) = k_round 52 from by decide)
  refine lv_dup hx hb dX9_init_321 rfl ?_
  refine lv_bipush (v := nI 53) hx hb dX9_init_322 (by decide) ?_
  refine lv_ldc (v := nI 1322822218) hx hb S.2.2.2.1 (S.2.2.2.2 (.constant RX9 60 (nI 1322822218)) (by decide +kernel)) dX9_init_324 ?_
  refine mm_iast S hC hR h1 (j := 53) (by omega) (by omega) dX9_init_326 (fun H locs M216 g218 f217 hR => ?_)
  have h0 := f217.at h0 (mm_nc n_X_q1 mm_n0)
  have h1 : M216 q1 = some (ia G 64 (upd tb215 53 (nI 1322822218))) := g218
  have hF := hF.tr f217 (mm_in nn_q1 mm_i0)
  obtain ⟨tb219, etb219⟩ : ∃ z : Nat → Int32, z = upd tb215 53 (nI 1322822218) := ⟨_, rfl⟩
  rw [← etb219] at h1
  have hk : ∀ j, j < 54 → tb219 j = k_round j := by rw [etb219]; exact mt_s hk (show (nI 1322822218) = k_round 53 from by decide)
  refine lv_dup hx hb dX9_init_327 rfl ?_
  refine lv_bipush (v := nI 54) hx hb dX9_init_328 (by decide) ?_
  refine lv_ldc (v := nI 1537002063) hx hb S.2.2.2.1 (S.2.2.2.2 (.constant RX9 61 (nI 1537002063)) (by decide +kernel)) dX9_init_330 ?_
  refine mm_iast S hC hR h1 (j := 54) (by omega) (by omega) dX9_init_332 (fun H locs M220 g222 f221 hR => ?_)
  have h0 := f221.at h0 (mm_nc n_X_q1 mm_n0)
  have h1 : M220 q1 = some (ia G 64 (upd tb219 54 (nI 1537002063))) := g222
  have hF := hF.tr f221 (mm_in nn_q1 mm_i0)
  obtain ⟨tb223, etb223⟩ : ∃ z : Nat → Int32, z = upd tb219 54 (nI 1537002063) := ⟨_, rfl⟩
  rw [← etb223] at h1
  have hk : ∀ j, j < 55 → tb223 j = k_round j := by rw [etb223]; exact mt_s hk (show (nI 1537002063) = k_round 54 from by decide)
  refine lv_dup hx hb dX9_init_333 rfl ?_
  refine lv_bipush (v := nI 55) hx hb dX9_init_334 (by decide) ?_
  refine lv_ldc (v := nI 1747873779) hx hb S.2.2.2.1 (S.2.2.2.2 (.constant RX9 62 (nI 1747873779)) (by decide +kernel)) dX9_init_336 ?_
  refine mm_iast S hC hR h1 (j := 55) (by omega) (by omega) dX9_init_338 (fun H locs M224 g226 f225 hR => ?_)
  have h0 := f225.at h0 (mm_nc n_X_q1 mm_n0)
  have h1 : M224 q1 = some (ia G 64 (upd tb223 55 (nI 1747873779))) := g226
  have hF := hF.tr f225 (mm_in nn_q1 mm_i0)
  obtain ⟨tb227, etb227⟩ : ∃ z : Nat → Int32, z = upd tb223 55 (nI 1747873779) := ⟨_, rfl⟩
  rw [← etb227] at h1
  have hk : ∀ j, j < 56 → tb227 j = k_round j := by rw [etb227]; exact mt_s hk (show (nI 1747873779) = k_round 55 from by decide)
  refine lv_dup hx hb dX9_init_339 rfl ?_
  refine lv_bipush (v := nI 56) hx hb dX9_init_340 (by decide) ?_
  refine lv_ldc (v := nI 1955562222) hx hb S.2.2.2.1 (S.2.2.2.2 (.constant RX9 63 (nI 1955562222)) (by decide +kernel)) dX9_init_342 ?_
  refine mm_iast S hC hR h1 (j := 56) (by omega) (by omega) dX9_init_344 (fun H locs M228 g230 f229 hR => ?_)
  have h0 := f229.at h0 (mm_nc n_X_q1 mm_n0)
  have h1 : M228 q1 = some (ia G 64 (upd tb227 56 (nI 1955562222))) := g230
  have hF := hF.tr f229 (mm_in nn_q1 mm_i0)
  obtain ⟨tb231, etb231⟩ : ∃ z : Nat → Int32, z = upd tb227 56 (nI 1955562222) := ⟨_, rfl⟩
  rw [← etb231] at h1
  have hk : ∀ j, j < 57 → tb231 j = k_round j := by rw [etb231]; exact mt_s hk (show (nI 1955562222) = k_round 56 from by decide)
  refine lv_dup hx hb dX9_init_345 rfl ?_
  refine lv_bipush (v := nI 57) hx hb dX9_init_346 (by decide) ?_
  refine lv_ldc (v := nI 2024104815) hx hb S.2.2.2.1 (S.2.2.2.2 (.constant RX9 64 (nI 2024104815)) (by decide +kernel)) dX9_init_348 ?_
  refine mm_iast S hC hR h1 (j := 57) (by omega) (by omega) dX9_init_350 (fun H locs M232 g234 f233 hR => ?_)
  have h0 := f233.at h0 (mm_nc n_X_q1 mm_n0)
  have h1 : M232 q1 = some (ia G 64 (upd tb231 57 (nI 2024104815))) := g234
  have hF := hF.tr f233 (mm_in nn_q1 mm_i0)
  obtain ⟨tb235, etb235⟩ : ∃ z : Nat → Int32, z = upd tb231 57 (nI 2024104815) := ⟨_, rfl⟩
  rw [← etb235] at h1
  have hk : ∀ j, j < 58 → tb235 j = k_round j := by rw [etb235]; exact mt_s hk (show (nI 2024104815) = k_round 57 from by decide)
  refine lv_dup hx hb dX9_init_351 rfl ?_
  refine lv_bipush (v := nI 58) hx hb dX9_init_352 (by decide) ?_
  refine lv_ldc (v := -2067236844) hx hb S.2.2.2.1 (S.2.2.2.2 (.constant RX9 65 (-2067236844)) (by decide +kernel)) dX9_init_354 ?_
  refine mm_iast S hC hR h1 (j := 58) (by omega) (by omega) dX9_init_356 (fun H locs M236 g238 f237 hR => ?_)
  have h0 := f237.at h0 (mm_nc n_X_q1 mm_n0)
  have h1 : M236 q1 = some (ia G 64 (upd tb235 58 (-2067236844))) := g238
  have hF := hF.tr f237 (mm_in nn_q1 mm_i0)
  obtain ⟨tb239, etb239⟩ : ∃ z : Nat → Int32, z = upd tb235 58 (-2067236844) := ⟨_, rfl⟩
  rw [← etb239] at h1
  have hk : ∀ j, j < 59 → tb239 j = k_round j := by rw [etb239]; exact mt_s hk (show (-2067236844) = k_round 58 from by decide)
  refine lv_dup hx hb dX9_init_357 rfl ?_
  refine lv_bipush (v := nI 59) hx hb dX9_init_358 (by decide) ?_
  refine lv_ldc (v := -1933114872) hx hb S.2.2.2.1 (S.2.2.2.2 (.constant RX9 66 (-1933114872)) (by decide +kernel)) dX9_init_360 ?_
  refine mm_iast S hC hR h1 (j := 59) (by omega) (by omega) dX9_init_362 (fun H locs M240 g242 f241 hR => ?_)
  have h0 := f241.at h0 (mm_nc n_X_q1 mm_n0)
  have h1 : M240 q1 = some (ia G 64 (upd tb239 59 (-1933114872))) := g242
  have hF := hF.tr f241 (mm_in nn_q1 mm_i0)
  obtain ⟨tb243, etb243⟩ : ∃ z : Nat → Int32, z = upd tb239 59 (-1933114872) := ⟨_, rfl⟩
  rw [← etb243] at h1
  have hk : ∀ j, j < 60 → tb243 j = k_round j := by rw [etb243]; exact mt_s hk (show (-1933114872) = k_round 59 from by decide)
  refine lv_dup hx hb dX9_init_363 rfl ?_
  refine lv_bipush (v := nI 60) hx hb dX9_init_364 (by decide) ?_
  refine lv_ldc (v := -1866530822) hx hb S.2.2.2.1 (S.2.2.2.2 (.constant RX9 67 (-1866530822)) (by decide +kernel)) dX9_init_366 ?_
  refine mm_iast S hC hR h1 (j := 60) (by omega) (by omega) dX9_init_368 (fun H locs M244 g246 f245 hR => ?_)
  have h0 := f245.at h0 (mm_nc n_X_q1 mm_n0)
  have h1 : M244 q1 = some (ia G 64 (upd tb243 60 (-1866530822))) := g246
  have hF := hF.tr f245 (mm_in nn_q1 mm_i0)
  obtain ⟨tb247, etb247⟩ : ∃ z : Nat → Int32, z = upd tb243 60 (-1866530822) := ⟨_, rfl⟩
  rw [← etb247] at h1
  have hk : ∀ j, j < 61 → tb247 j = k_round j := by rw [etb247]; exact mt_s hk (show (-1866530822) = k_round 60 from by decide)
  refine lv_dup hx hb dX9_init_369 rfl ?_
  refine lv_bipush (v := nI 61) hx hb dX9_init_370 (by decide) ?_
  refine lv_ldc (v := -1538233109) hx hb S.2.2.2.1 (S.2.2.2.2 (.constant RX9 68 (-1538233109)) (by decide +kernel)) dX9_init_372 ?_
  refine mm_iast S hC hR h1 (j := 61) (by omega) (by omega) dX9_init_374 (fun H locs M248 g250 f249 hR => ?_)
  have h0 := f249.at h0 (mm_nc n_X_q1 mm_n0)
  have h1 : M248 q1 = some (ia G 64 (upd tb247 61 (-1538233109))) := g250
  have hF := hF.tr f249 (mm_in nn_q1 mm_i0)
  obtain ⟨tb251, etb251⟩ : ∃ z : Nat → Int32, z = upd tb247 61 (-1538233109) := ⟨_, rfl⟩
  rw [← etb251] at h1
  have hk : ∀ j, j < 62 → tb251 j = k_round j := by rw [etb251]; exact mt_s hk (show (-1538233109) = k_round 61 from by decide)
  refine lv_dup hx hb dX9_init_375 rfl ?_
  refine lv_bipush (v := nI 62) hx hb dX9_init_376 (by decide) ?_
  refine lv_ldc (v := -1090935817) hx hb S.2.2.2.1 (S.2.2.2.2 (.constant RX9 69 (-1090935817)) (by decide +kernel)) dX9_init_378 ?_
  refine mm_iast S hC hR h1 (j := 62) (by omega) (by omega) dX9_init_380 (fun H locs M252 g254 f253 hR => ?_)
  have h0 := f253.at h0 (mm_nc n_X_q1 mm_n0)
  have h1 : M252 q1 = some (ia G 64 (upd tb251 62 (-1090935817))) := g254
  have hF := hF.tr f253 (mm_in nn_q1 mm_i0)
  obtain ⟨tb255, etb255⟩ : ∃ z : Nat → Int32, z = upd tb251 62 (-1090935817) := ⟨_, rfl⟩
  rw [← etb255] at h1
  have hk : ∀ j, j < 63 → tb255 j = k_round j := by rw [etb255]; exact mt_s hk (show (-1090935817) = k_round 62 from by decide)
  refine lv_dup hx hb dX9_init_381 rfl ?_
  refine lv_bipush (v := nI 63) hx hb dX9_init_382 (by decide) ?_
  refine lv_ldc (v := -965641998) hx hb S.2.2.2.1 (S.2.2.2.2 (.constant RX9 70 (-965641998)) (by decide +kernel)) dX9_init_384 ?_
  refine mm_iast S hC hR h1 (j := 63) (by omega) (by omega) dX9_init_386 (fun H locs M256 g258 f257 hR => ?_)
  have h0 := f257.at h0 (mm_nc n_X_q1 mm_n0)
  have h1 : M256 q1 = some (ia G 64 (upd tb255 63 (-965641998))) := g258
  have hF := hF.tr f257 (mm_in nn_q1 mm_i0)
  obtain ⟨tb259, etb259⟩ : ∃ z : Nat → Int32, z = upd tb255 63 (-965641998) := ⟨_, rfl⟩
  rw [← etb259] at h1
  have hk : ∀ j, j < 64 → tb259 j = k_round j := by rw [etb259]; exact mt_s hk (show (-965641998) = k_round 63 from by decide)
  have hK := hk
  refine mm_putF S hC hR (C := RX9) (T := TX9) (N := 23) (ref := "ForkWatchModel") 0 h0 inRX9 rfl tyX9_ok nmX9 (by decide) (by decide +kernel) (fun _ h9 => h9) rfl hin rfl rfl rfl (Nat.le_of_ble_eq_true rfl) dX9_init_387 (fun H locs M260 g262 f261 hR => ?_)
  have h1 := f261.at h1 (mm_nc (Ne.symm n_X_q1) mm_n0)
  have h0 : M260 X = some (ob 10 [.ref q1, .null, .null, .null, .null, .null, .int (nI 0), .null, .null, .int (nI 0), .null, .int (nI 0), .int (nI 0), .int (nI 0), .null, .int (nI 0), .null, .null, .null, .null, .null, .null, .int (nI 0)]) := g262
  have hF := hF.tr f261 (mm_ic 0 rfl mm_i0)
  refine lv_aload_n hx hb dX9_init_390 rfl (lv_at hl 0 rfl) ?_
  refine lv_bipush (v := nI 8) hx hb dX9_init_391 (by decide) ?_
  refine mm_newi S hC hA hR (by decide +kernel) (n := 8) (by omega) (Nat.le_of_ble_eq_true rfl) (Nat.le_of_ble_eq_true rfl) dX9_init_393 (fun q2 H M263 z265 h2 f264 hR => ?_)
  have n_X_q2 : dif X q2 := mm_nenew h0 z265
  have n_q1_q2 : dif q1 q2 := mm_nenew h1 z265
  have nn_q2 : M q2 = none := hF.none z265 (mm_oc h0 mm_o0)
  have h0 := f264.at h0 mm_n0
  have h1 := f264.at h1 mm_n0
  have h2 : M263 q2 = some (ia G 8 (fun _ => 0)) := h2
  have hF := hF.tr f264 mm_i0
  have hk : ∀ j, j < 0 → (fun _ => (0 : Int32)) j = k_begin j := (fun j hj => absurd hj (Nat.not_lt_zero j))
  refine lv_dup hx hb dX9_init_395 rfl ?_
  refine lv_iconst (v := nI 0) hx hb dX9_init_396 (by decide) ?_
  refine lv_ldc (v := nI 1779033703) hx hb S.2.2.2.1 (S.2.2.2.2 (.constant RX9 77 (nI 1779033703)) (by decide +kernel)) dX9_init_397 ?_
  refine mm_iast S hC hR h2 (j := 0) (by omega) (by omega) dX9_init_399 (fun H locs M266 g268 f267 hR => ?_)
  have h0 := f267.at h0 (mm_nc n_X_q2 mm_n0)
  have h1 := f267.at h1 (mm_nc n_q1_q2 mm_n0)
  have h2 : M266 q2 = some (ia G 8 (upd (fun _ => 0) 0 (nI 1779033703))) := g268
  have hF := hF.tr f267 (mm_in nn_q2 mm_i0)
  obtain ⟨tb269, etb269⟩ : ∃ z : Nat → Int32, z = upd (fun _ => 0) 0 (nI 1779033703) := ⟨_, rfl⟩
  rw [← etb269] at h2
  have hk : ∀ j, j < 1 → tb269 j = k_begin j := by rw [etb269]; exact mt_s hk (show (nI 1779033703) = k_begin 0 from by decide)
  refine lv_dup hx hb dX9_init_400 rfl ?_
  refine lv_iconst (v := nI 1) hx hb dX9_init_401 (by decide) ?_
  refine lv_ldc (v := -1150833019) hx hb S.2.2.2.1 (S.2.2.2.2 (.constant RX9 78 (-1150833019)) (by decide +kernel)) dX9_init_402 ?_
  refine mm_iast S hC hR h2 (j := 1) (by omega) (by omega) dX9_init_404 (fun H locs M270 g272 f271 hR => ?_)
  have h0 := f271.at h0 (mm_nc n_X_q2 mm_n0)
  have h1 := f271.at h1 (mm_nc n_q1_q2 mm_n0)
  have h2 : M270 q2 = some (ia G 8 (upd tb269 1 (-1150833019))) := g272
  have hF := hF.tr f271 (mm_in nn_q2 mm_i0)
  obtain ⟨tb273, etb273⟩ : ∃ z : Nat → Int32, z = upd tb269 1 (-1150833019) := ⟨_, rfl⟩
  rw [← etb273] at h2
  have hk : ∀ j, j < 2 → tb273 j = k_begin j := by rw [etb273]; exact mt_s hk (show (-1150833019) = k_begin 1 from by decide)
  refine lv_dup hx hb dX9_init_405 rfl ?_
  refine lv_iconst (v := nI 2) hx hb dX9_init_406 (by decide) ?_
  refine lv_ldc (v := nI 1013904242) hx hb S.2.2.2.1 (S.2.2.2.2 (.constant RX9 79 (nI 1013904242)) (by decide +kernel)) dX9_init_407 ?_
  refine mm_iast S hC hR h2 (j := 2) (by omega) (by omega) dX9_init_409 (fun H locs M274 g276 f275 hR => ?_)
  have h0 := f275.at h0 (mm_nc n_X_q2 mm_n0)
  have h1 := f275.at h1 (mm_nc n_q1_q2 mm_n0)
  have h2 : M274 q2 = some (ia G 8 (upd tb273 2 (nI 1013904242))) := g276
  have hF := hF.tr f275 (mm_in nn_q2 mm_i0)
  obtain ⟨tb277, etb277⟩ : ∃ z : Nat → Int32, z = upd tb273 2 (nI 1013904242) := ⟨_, rfl⟩
  rw [← etb277] at h2
  have hk : ∀ j, j < 3 → tb277 j = k_begin j := by rw [etb277]; exact mt_s hk (show (nI 1013904242) = k_begin 2 from by decide)
  refine lv_dup hx hb dX9_init_410 rfl ?_
  refine lv_iconst (v := nI 3) hx hb dX9_init_411 (by decide) ?_
  refine lv_ldc (v := -1521486534) hx hb S.2.2.2.1 (S.2.2.2.2 (.constant RX9 80 (-1521486534)) (by decide +kernel)) dX9_init_412 ?_
  refine mm_iast S hC hR h2 (j := 3) (by omega) (by omega) dX9_init_414 (fun H locs M278 g280 f279 hR => ?_)
  have h0 := f279.at h0 (mm_nc n_X_q2 mm_n0)
  have h1 := f279.at h1 (mm_nc n_q1_q2 mm_n0)
  have h2 : M278 q2 = some (ia G 8 (upd tb277 3 (-1521486534))) := g280
  have hF := hF.tr f279 (mm_in nn_q2 mm_i0)
  obtain ⟨tb281, etb281⟩ : ∃ z : Nat → Int32, z = upd tb277 3 (-1521486534) := ⟨_, rfl⟩
  rw [← etb281] at h2
  have hk : ∀ j, j < 4 → tb281 j = k_begin j := by rw [etb281]; exact mt_s hk (show (-1521486534) = k_begin 3 from by decide)
  refine lv_dup hx hb dX9_init_415 rfl ?_
  refine lv_iconst (v := nI 4) hx hb dX9_init_416 (by decide) ?_
  refine lv_ldc (v := nI 1359893119) hx hb S.2.2.2.1 (S.2.2.2.2 (.constant RX9 81 (nI 1359893119)) (by decide +kernel)) dX9_init_417 ?_
  refine mm_iast S hC hR h2 (j := 4) (by omega) (by omega) dX9_init_419 (fun H locs M282 g284 f283 hR => ?_)
  have h0 := f283.at h0 (mm_nc n_X_q2 mm_n0)
  have h1 := f283.at h1 (mm_nc n_q1_q2 mm_n0)
  have h2 : M282 q2 = some (ia G 8 (upd tb281 4 (nI 1359893119))) := g284
  have hF := hF.tr f283 (mm_in nn_q2 mm_i0)
  obtain ⟨tb285, etb285⟩ : ∃ z : Nat → Int32, z = upd tb281 4 (nI 1359893119) := ⟨_, rfl⟩
  rw [← etb285] at h2
  have hk : ∀ j, j < 5 → tb285 j = k_begin j := by rw [etb285]; exact mt_s hk (show (nI 1359893119) = k_begin 4 from by decide)
  refine lv_dup hx hb dX9_init_420 rfl ?_
  refine lv_iconst (v := nI 5) hx hb dX9_init_421 (by decide) ?_
  refine lv_ldc (v := -1694144372) hx hb S.2.2.2.1 (S.2.2.2.2 (.constant RX9 82 (-1694144372)) (by decide +kernel)) dX9_init_422 ?_
  refine mm_iast S hC hR h2 (j := 5) (by omega) (by omega) dX9_init_424 (fun H locs M286 g288 f287 hR => ?_)
  have h0 := f287.at h0 (mm_nc n_X_q2 mm_n0)
  have h1 := f287.at h1 (mm_nc n_q1_q2 mm_n0)
  have h2 : M286 q2 = some (ia G 8 (upd tb285 5 (-1694144372))) := g288
  have hF := hF.tr f287 (mm_in nn_q2 mm_i0)
  obtain ⟨tb289, etb289⟩ : ∃ z : Nat → Int32, z = upd tb285 5 (-1694144372) := ⟨_, rfl⟩
  rw [← etb289] at h2
  have hk : ∀ j, j < 6 → tb289 j = k_begin j := by rw [etb289]; exact mt_s hk (show (-1694144372) = k_begin 5 from by decide)
  refine lv_dup hx hb dX9_init_425 rfl ?_
  refine lv_bipush (v := nI 6) hx hb dX9_init_426 (by decide) ?_
  refine lv_ldc (v := nI 528734635) hx hb S.2.2.2.1 (S.2.2.2.2 (.constant RX9 83 (nI 528734635)) (by decide +kernel)) dX9_init_428 ?_
  refine mm_iast S hC hR h2 (j := 6) (by omega) (by omega) dX9_init_430 (fun H locs M290 g292 f291 hR => ?_)
  have h0 := f291.at h0 (mm_nc n_X_q2 mm_n0)
  have h1 := f291.at h1 (mm_nc n_q1_q2 mm_n0)
  have h2 : M290 q2 = some (ia G 8 (upd tb289 6 (nI 528734635))) := g292
  have hF := hF.tr f291 (mm_in nn_q2 mm_i0)
  obtain ⟨tb293, etb293⟩ : ∃ z : Nat → Int32, z = upd tb289 6 (nI 528734635) := ⟨_, rfl⟩
  rw [← etb293] at h2
  have hk : ∀ j, j < 7 → tb293 j = k_begin j := by rw [etb293]; exact mt_s hk (show (nI 528734635) = k_begin 6 from by decide)
  refine lv_dup hx hb dX9_init_431 rfl ?_
  refine lv_bipush (v := nI 7) hx hb dX9_init_432 (by decide) ?_
  refine lv_ldc (v := nI 1541459225) hx hb S.2.2.2.1 (S.2.2.2.2 (.constant RX9 84 (nI 1541459225)) (by decide +kernel)) dX9_init_434 ?_
  refine mm_iast S hC hR h2 (j := 7) (by omega) (by omega) dX9_init_436 (fun H locs M294 g296 f295 hR => ?_)
  have h0 := f295.at h0 (mm_nc n_X_q2 mm_n0)
  have h1 := f295.at h1 (mm_nc n_q1_q2 mm_n0)
  have h2 : M294 q2 = some (ia G 8 (upd tb293 7 (nI 1541459225))) := g296
  have hF := hF.tr f295 (mm_in nn_q2 mm_i0)
  obtain ⟨tb297, etb297⟩ : ∃ z : Nat → Int32, z = upd tb293 7 (nI 1541459225) := ⟨_, rfl⟩
  rw [← etb297] at h2
  have hk : ∀ j, j < 8 → tb297 j = k_begin j := by rw [etb297]; exact mt_s hk (show (nI 1541459225) = k_begin 7 from by decide)
  have hB := hk
  refine mm_putF S hC hR (C := RX9) (T := TX9) (N := 23) (ref := "ForkWatchModel") 1 h0 inRX9 rfl tyX9_ok nmX9 (by decide) (by decide +kernel) (fun _ h9 => h9) rfl hin rfl rfl rfl (Nat.le_of_ble_eq_true rfl) dX9_init_437 (fun H locs M298 g300 f299 hR => ?_)
  have h1 := f299.at h1 (mm_nc (Ne.symm n_X_q1) mm_n0)
  have h2 := f299.at h2 (mm_nc (Ne.symm n_X_q2) mm_n0)
  have h0 : M298 X = some (ob 10 [.ref q1, .ref q2, .null, .null, .null, .null, .int (nI 0), .null, .null, .int (nI 0), .null, .int (nI 0), .int (nI 0), .int (nI 0), .null, .int (nI 0), .null, .null, .null, .null, .null, .null, .int (nI 0)]) := g300
  have hF := hF.tr f299 (mm_ic 0 rfl mm_i0)
  refine lv_aload_n hx hb dX9_init_440 rfl (lv_at hl 0 rfl) ?_
  refine lv_sipush (v := nI 2016) hx hb dX9_init_441 (by decide) ?_
  refine mm_newi S hC hA hR (by decide +kernel) (n := 2016) (by omega) (Nat.le_of_ble_eq_true rfl) (Nat.le_of_ble_eq_true rfl) dX9_init_444 (fun q3 H M301 z303 h3 f302 hR => ?_)
  have n_X_q3 : dif X q3 := mm_nenew h0 z303
  have n_q1_q3 : dif q1 q3 := mm_nenew h1 z303
  have n_q2_q3 : dif q2 q3 := mm_nenew h2 z303
  have nn_q3 : M q3 = none := hF.none z303 (mm_oc h0 mm_o0)
  have h0 := f302.at h0 mm_n0
  have h1 := f302.at h1 mm_n0
  have h2 := f302.at h2 mm_n0
  have h3 : M301 q3 = some (ia G 2016 (fun _ => 0)) := h3
  have hF := hF.tr f302 mm_i0
  refine mm_putF S hC hR (C := RX9) (T := TX9) (N := 23) (ref := "ForkWatchModel") 2 h0 inRX9 rfl tyX9_ok nmX9 (by decide) (by decide +kernel) (fun _ h9 => h9) rfl hin rfl rfl rfl (Nat.le_of_ble_eq_true rfl) dX9_init_446 (fun H locs M304 g306 f305 hR => ?_)
  have h1 := f305.at h1 (mm_nc (Ne.symm n_X_q1) mm_n0)
  have h2 := f305.at h2 (mm_nc (Ne.symm n_X_q2) mm_n0)
  have h3 := f305.at h3 (mm_nc (Ne.symm n_X_q3) mm_n0)
  have h0 : M304 X = some (ob 10 [.ref q1, .ref q2, .ref q3, .null, .null, .null, .int (nI 0), .null, .null, .int (nI 0), .null, .int (nI 0), .int (nI 0), .int (nI 0), .null, .int (nI 0), .null, .null, .null, .null, .null, .null, .int (nI 0)]) := g306
  have hF := hF.tr f305 (mm_ic 0 rfl mm_i0)
  refine lv_aload_n hx hb dX9_init_449 rfl (lv_at hl 0 rfl) ?_
  refine lv_sipush (v := nI 336) hx hb dX9_init_450 (by decide) ?_
  refine mm_newi S hC hA hR (by decide +kernel) (n := 336) (by omega) (Nat.le_of_ble_eq_true rfl) (Nat.le_of_ble_eq_true rfl) dX9_init_453 (fun q4 H M307 z309 h4 f308 hR => ?_)
  have n_X_q4 : dif X q4 := mm_nenew h0 z309
  have n_q1_q4 : dif q1 q4 := mm_nenew h1 z309
  have n_q2_q4 : dif q2 q4 := mm_nenew h2 z309
  have n_q3_q4 : dif q3 q4 := mm_nenew h3 z309
  have nn_q4 : M q4 = none := hF.none z309 (mm_oc h0 mm_o0)
  have h0 := f308.at h0 mm_n0
  have h1 := f308.at h1 mm_n0
  have h2 := f308.at h2 mm_n0
  have h3 := f308.at h3 mm_n0
  have h4 : M307 q4 = some (ia G 336 (fun _ => 0)) := h4
  have hF := hF.tr f308 mm_i0
  refine mm_putF S hC hR (C := RX9) (T := TX9) (N := 23) (ref := "ForkWatchModel") 3 h0 inRX9 rfl tyX9_ok nmX9 (by decide) (by decide +kernel) (fun _ h9 => h9) rfl hin rfl rfl rfl (Nat.le_of_ble_eq_true rfl) dX9_init_455 (fun H locs M310 g312 f311 hR => ?_)
  have h1 := f311.at h1 (mm_nc (Ne.symm n_X_q1) mm_n0)
  have h2 := f311.at h2 (mm_nc (Ne.symm n_X_q2) mm_n0)
  have h3 := f311.at h3 (mm_nc (Ne.symm n_X_q3) mm_n0)
  have h4 := f311.at h4 (mm_nc (Ne.symm n_X_q4) mm_n0)
  have h0 : M310 X = some (ob 10 [.ref q1, .ref q2, .ref q3, .ref q4, .null, .null, .int (nI 0), .null, .null, .int (nI 0), .null, .int (nI 0), .int (nI 0), .int (nI 0), .null, .int (nI 0), .null, .null, .null, .null, .null, .null, .int (nI 0)]) := g312
  have hF := hF.tr f311 (mm_ic 0 rfl mm_i0)
  refine lv_aload_n hx hb dX9_init_458 rfl (lv_at hl 0 rfl) ?_
  refine lv_sipush (v := nI 1152) hx hb dX9_init_459 (by decide) ?_
  refine mm_newi S hC hA hR (by decide +kernel) (n := 1152) (by omega) (Nat.le_of_ble_eq_true rfl) (Nat.le_of_ble_eq_true rfl) dX9_init_462 (fun q5 H M313 z315 h5 f314 hR => ?_)
  have n_X_q5 : dif X q5 := mm_nenew h0 z315
  have n_q1_q5 : dif q1 q5 := mm_nenew h1 z315
  have n_q2_q5 : dif q2 q5 := mm_nenew h2 z315
  have n_q3_q5 : dif q3 q5 := mm_nenew h3 z315
  have n_q4_q5 : dif q4 q5 := mm_nenew h4 z315
  have nn_q5 : M q5 = none := hF.none z315 (mm_oc h0 mm_o0)
  have h0 := f314.at h0 mm_n0
  have h1 := f314.at h1 mm_n0
  have h2 := f314.at h2 mm_n0
  have h3 := f314.at h3 mm_n0
  have h4 := f314.at h4 mm_n0
  have h5 : M313 q5 = some (ia G 1152 (fun _ => 0)) := h5
  have hF := hF.tr f314 mm_i0
  refine mm_putF S hC hR (C := RX9) (T := TX9) (N := 23) (ref := "ForkWatchModel") 4 h0 inRX9 rfl tyX9_ok nmX9 (by decide) (by decide +kernel) (fun _ h9 => h9) rfl hin rfl rfl rfl (Nat.le_of_ble_eq_true rfl) dX9_init_464 (fun H locs M316 g318 f317 hR => ?_)
  have h1 := f317.at h1 (mm_nc (Ne.symm n_X_q1) mm_n0)
  have h2 := f317.at h2 (mm_nc (Ne.symm n_X_q2) mm_n0)
  have h3 := f317.at h3 (mm_nc (Ne.symm n_X_q3) mm_n0)
  have h4 := f317.at h4 (mm_nc (Ne.symm n_X_q4) mm_n0)
  have h5 := f317.at h5 (mm_nc (Ne.symm n_X_q5) mm_n0)
  have h0 : M316 X = some (ob 10 [.ref q1, .ref q2, .ref q3, .ref q4, .ref q5, .null, .int (nI 0), .null, .null, .int (nI 0), .null, .int (nI 0), .int (nI 0), .int (nI 0), .null, .int (nI 0), .null, .null, .null, .null, .null, .null, .int (nI 0)]) := g318
  have hF := hF.tr f317 (mm_ic 0 rfl mm_i0)
  refine lv_aload_n hx hb dX9_init_467 rfl (lv_at hl 0 rfl) ?_
  refine lv_bipush (v := nI 96) hx hb dX9_init_468 (by decide) ?_
  refine mm_newi S hC hA hR (by decide +kernel) (n := 96) (by omega) (Nat.le_of_ble_eq_true rfl) (Nat.le_of_ble_eq_true rfl) dX9_init_470 (fun q6 H M319 z321 h6 f320 hR => ?_)
  have n_X_q6 : dif X q6 := mm_nenew h0 z321
  have n_q1_q6 : dif q1 q6 := mm_nenew h1 z321
  have n_q2_q6 : dif q2 q6 := mm_nenew h2 z321
  have n_q3_q6 : dif q3 q6 := mm_nenew h3 z321
  have n_q4_q6 : dif q4 q6 := mm_nenew h4 z321
  have n_q5_q6 : dif q5 q6 := mm_nenew h5 z321
  have nn_q6 : M q6 = none := hF.none z321 (mm_oc h0 mm_o0)
  have h0 := f320.at h0 mm_n0
  have h1 := f320.at h1 mm_n0
  have h2 := f320.at h2 mm_n0
  have h3 := f320.at h3 mm_n0
  have h4 := f320.at h4 mm_n0
  have h5 := f320.at h5 mm_n0
  have h6 : M319 q6 = some (ia G 96 (fun _ => 0)) := h6
  have hF := hF.tr f320 mm_i0
  refine mm_putF S hC hR (C := RX9) (T := TX9) (N := 23) (ref := "ForkWatchModel") 5 h0 inRX9 rfl tyX9_ok nmX9 (by decide) (by decide +kernel) (fun _ h9 => h9) rfl hin rfl rfl rfl (Nat.le_of_ble_eq_true rfl) dX9_init_472 (fun H locs M322 g324 f323 hR => ?_)
  have h1 := f323.at h1 (mm_nc (Ne.symm n_X_q1) mm_n0)
  have h2 := f323.at h2 (mm_nc (Ne.symm n_X_q2) mm_n0)
  have h3 := f323.at h3 (mm_nc (Ne.symm n_X_q3) mm_n0)
  have h4 := f323.at h4 (mm_nc (Ne.symm n_X_q4) mm_n0)
  have h5 := f323.at h5 (mm_nc (Ne.symm n_X_q5) mm_n0)
  have h6 := f323.at h6 (mm_nc (Ne.symm n_X_q6) mm_n0)
  have h0 : M322 X = some (ob 10 [.ref q1, .ref q2, .ref q3, .ref q4, .ref q5, .ref q6, .int (nI 0), .null, .null, .int (nI 0), .null, .int (nI 0), .int (nI 0), .int (nI 0), .null, .int (nI 0), .null, .null, .null, .null, .null, .null, .int (nI 0)]) := g324
  have hF := hF.tr f323 (mm_ic 0 rfl mm_i0)
  refine lv_aload_n hx hb dX9_init_475 rfl (lv_at hl 0 rfl) ?_
  refine lv_iconst (v := nI 1) hx hb dX9_init_476 (by decide) ?_
  refine mm_put S hC hR (C := RX9) (T := TX9) (N := 23) (ref := "ForkWatchModel") 6 h0 inRX9 rfl tyX9_ok nmX9 (by decide) (by decide +kernel) (fun _ h9 => h9) rfl rfl rfl (Nat.le_of_ble_eq_true rfl) dX9_init_477 (fun H locs M325 g327 f326 hR => ?_)
  have h1 := f326.at h1 (mm_nc (Ne.symm n_X_q1) mm_n0)
  have h2 := f326.at h2 (mm_nc (Ne.symm n_X_q2) mm_n0)
  have h3 := f326.at h3 (mm_nc (Ne.symm n_X_q3) mm_n0)
  have h4 := f326.at h4 (mm_nc (Ne.symm n_X_q4) mm_n0)
  have h5 := f326.at h5 (mm_nc (Ne.symm n_X_q5) mm_n0)
  have h6 := f326.at h6 (mm_nc (Ne.symm n_X_q6) mm_n0)
  have h0 : M325 X = some (ob 10 [.ref q1, .ref q2, .ref q3, .ref q4, .ref q5, .ref q6, .int (nI 1), .null, .null, .int (nI 0), .null, .int (nI 0), .int (nI 0), .int (nI 0), .null, .int (nI 0), .null, .null, .null, .null, .null, .null, .int (nI 0)]) := g327
  have hF := hF.tr f326 (mm_ic 0 rfl mm_i0)
  refine lv_aload_n hx hb dX9_init_480 rfl (lv_at hl 0 rfl) ?_
  refine lv_iconst (v := nI 4) hx hb dX9_init_481 (by decide) ?_
  refine mm_newi S hC hA hR (by decide +kernel) (n := 4) (by omega) (Nat.le_of_ble_eq_true rfl) (Nat.le_of_ble_eq_true rfl) dX9_init_482 (fun q7 H M328 z330 h7 f329 hR => ?_)
  have n_X_q7 : dif X q7 := mm_nenew h0 z330
  have n_q1_q7 : dif q1 q7 := mm_nenew h1 z330
  have n_q2_q7 : dif q2 q7 := mm_nenew h2 z330
  have n_q3_q7 : dif q3 q7 := mm_nenew h3 z330
  have n_q4_q7 : dif q4 q7 := mm_nenew h4 z330
  have n_q5_q7 : dif q5 q7 := mm_nenew h5 z330
  have n_q6_q7 : dif q6 q7 := mm_nenew h6 z330
  have nn_q7 : M q7 = none := hF.none z330 (mm_oc h0 mm_o0)
  have h0 := f329.at h0 mm_n0
  have h1 := f329.at h1 mm_n0
  have h2 := f329.at h2 mm_n0
  have h3 := f329.at h3 mm_n0
  have h4 := f329.at h4 mm_n0
  have h5 := f329.at h5 mm_n0
  have h6 := f329.at h6 mm_n0
  have h7 : M328 q7 = some (ia G 4 (fun _ => 0)) := h7
  have hF := hF.tr f329 mm_i0
  refine mm_putF S hC hR (C := RX9) (T := TX9) (N := 23) (ref := "ForkWatchModel") 7 h0 inRX9 rfl tyX9_ok nmX9 (by decide) (by decide +kernel) (fun _ h9 => h9) rfl hin rfl rfl rfl (Nat.le_of_ble_eq_true rfl) dX9_init_484 (fun H locs M331 g333 f332 hR => ?_)
  have h1 := f332.at h1 (mm_nc (Ne.symm n_X_q1) mm_n0)
  have h2 := f332.at h2 (mm_nc (Ne.symm n_X_q2) mm_n0)
  have h3 := f332.at h3 (mm_nc (Ne.symm n_X_q3) mm_n0)
  have h4 := f332.at h4 (mm_nc (Ne.symm n_X_q4) mm_n0)
  have h5 := f332.at h5 (mm_nc (Ne.symm n_X_q5) mm_n0)
  have h6 := f332.at h6 (mm_nc (Ne.symm n_X_q6) mm_n0)
  have h7 := f332.at h7 (mm_nc (Ne.symm n_X_q7) mm_n0)
  have h0 : M331 X = some (ob 10 [.ref q1, .ref q2, .ref q3, .ref q4, .ref q5, .ref q6, .int (nI 1), .ref q7, .null, .int (nI 0), .null, .int (nI 0), .int (nI 0), .int (nI 0), .null, .int (nI 0), .null, .null, .null, .null, .null, .null, .int (nI 0)]) := g333
  have hF := hF.tr f332 (mm_ic 0 rfl mm_i0)
  refine lv_aload_n hx hb dX9_init_487 rfl (lv_at hl 0 rfl) ?_
  refine lv_bipush (v := nI 64) hx hb dX9_init_488 (by decide) ?_
  refine mm_newi S hC hA hR (by decide +kernel) (n := 64) (by omega) (Nat.le_of_ble_eq_true rfl) (Nat.le_of_ble_eq_true rfl) dX9_init_490 (fun q8 H M334 z336 h8 f335 hR => ?_)
  have n_X_q8 : dif X q8 := mm_nenew h0 z336
  have n_q1_q8 : dif q1 q8 := mm_nenew h1 z336
  have n_q2_q8 : dif q2 q8 := mm_nenew h2 z336
  have n_q3_q8 : dif q3 q8 := mm_nenew h3 z336
  have n_q4_q8 : dif q4 q8 := mm_nenew h4 z336
  have n_q5_q8 : dif q5 q8 := mm_nenew h5 z336
  have n_q6_q8 : dif q6 q8 := mm_nenew h6 z336
  have n_q7_q8 : dif q7 q8 := mm_nenew h7 z336
  have nn_q8 : M q8 = none := hF.none z336 (mm_oc h0 mm_o0)
  have h0 := f335.at h0 mm_n0
  have h1 := f335.at h1 mm_n0
  have h2 := f335.at h2 mm_n0
  have h3 := f335.at h3 mm_n0
  have h4 := f335.at h4 mm_n0
  have h5 := f335.at h5 mm_n0
  have h6 := f335.at h6 mm_n0
  have h7 := f335.at h7 mm_n0
  have h8 : M334 q8 = some (ia G 64 (fun _ => 0)) := h8
  have hF := hF.tr f335 mm_i0
  refine mm_putF S hC hR (C := RX9) (T := TX9) (N := 23) (ref := "ForkWatchModel") 8 h0 inRX9 rfl tyX9_ok nmX9 (by decide) (by decide +kernel) (fun _ h9 => h9) rfl hin rfl rfl rfl (Nat.le_of_ble_eq_true rfl) dX9_init_492 (fun H locs M337 g339 f338 hR => ?_)
  have h1 := f338.at h1 (mm_nc (Ne.symm n_X_q1) mm_n0)
  have h2 := f338.at h2 (mm_nc (Ne.symm n_X_q2) mm_n0)
  have h3 := f338.at h3 (mm_nc (Ne.symm n_X_q3) mm_n0)
  have h4 := f338.at h4 (mm_nc (Ne.symm n_X_q4) mm_n0)
  have h5 := f338.at h5 (mm_nc (Ne.symm n_X_q5) mm_n0)
  have h6 := f338.at h6 (mm_nc (Ne.symm n_X_q6) mm_n0)
  have h7 := f338.at h7 (mm_nc (Ne.symm n_X_q7) mm_n0)
  have h8 := f338.at h8 (mm_nc (Ne.symm n_X_q8) mm_n0)
  have h0 : M337 X = some (ob 10 [.ref q1, .ref q2, .ref q3, .ref q4, .ref q5, .ref q6, .int (nI 1), .ref q7, .ref q8, .int (nI 0), .null, .int (nI 0), .int (nI 0), .int (nI 0), .null, .int (nI 0), .null, .null, .null, .null, .null, .null, .int (nI 0)]) := g339
  have hF := hF.tr f338 (mm_ic 0 rfl mm_i0)
  refine lv_aload_n hx hb dX9_init_495 rfl (lv_at hl 0 rfl) ?_
  refine lv_bipush (v := nI 12) hx hb dX9_init_496 (by decide) ?_
  refine mm_newi S hC hA hR (by decide +kernel) (n := 12) (by omega) (Nat.le_of_ble_eq_true rfl) (Nat.le_of_ble_eq_true rfl) dX9_init_498 (fun q9 H M340 z342 h9 f341 hR => ?_)
  have n_X_q9 : dif X q9 := mm_nenew h0 z342
  have n_q1_q9 : dif q1 q9 := mm_nenew h1 z342
  have n_q2_q9 : dif q2 q9 := mm_nenew h2 z342
  have n_q3_q9 : dif q3 q9 := mm_nenew h3 z342
  have n_q4_q9 : dif q4 q9 := mm_nenew h4 z342
  have n_q5_q9 : dif q5 q9 := mm_nenew h5 z342
  have n_q6_q9 : dif q6 q9 := mm_nenew h6 z342
  have n_q7_q9 : dif q7 q9 := mm_nenew h7 z342
  have n_q8_q9 : dif q8 q9 := mm_nenew h8 z342
  have nn_q9 : M q9 = none := hF.none z342 (mm_oc h0 mm_o0)
  have h0 := f341.at h0 mm_n0
  have h1 := f341.at h1 mm_n0
  have h2 := f341.at h2 mm_n0
  have h3 := f341.at h3 mm_n0
  have h4 := f341.at h4 mm_n0
  have h5 := f341.at h5 mm_n0
  have h6 := f341.at h6 mm_n0
  have h7 := f341.at h7 mm_n0
  have h8 := f341.at h8 mm_n0
  have h9 : M340 q9 = some (ia G 12 (fun _ => 0)) := h9
  have hF := hF.tr f341 mm_i0
  refine mm_putF S hC hR (C := RX9) (T := TX9) (N := 23) (ref := "ForkWatchModel") 10 h0 inRX9 rfl tyX9_ok nmX9 (by decide) (by decide +kernel) (fun _ h9 => h9) rfl hin rfl rfl rfl (Nat.le_of_ble_eq_true rfl) dX9_init_500 (fun H locs M343 g345 f344 hR => ?_)
  have h1 := f344.at h1 (mm_nc (Ne.symm n_X_q1) mm_n0)
  have h2 := f344.at h2 (mm_nc (Ne.symm n_X_q2) mm_n0)
  have h3 := f344.at h3 (mm_nc (Ne.symm n_X_q3) mm_n0)
  have h4 := f344.at h4 (mm_nc (Ne.symm n_X_q4) mm_n0)
  have h5 := f344.at h5 (mm_nc (Ne.symm n_X_q5) mm_n0)
  have h6 := f344.at h6 (mm_nc (Ne.symm n_X_q6) mm_n0)
  have h7 := f344.at h7 (mm_nc (Ne.symm n_X_q7) mm_n0)
  have h8 := f344.at h8 (mm_nc (Ne.symm n_X_q8) mm_n0)
  have h9 := f344.at h9 (mm_nc (Ne.symm n_X_q9) mm_n0)
  have h0 : M343 X = some (ob 10 [.ref q1, .ref q2, .ref q3, .ref q4, .ref q5, .ref q6, .int (nI 1), .ref q7, .ref q8, .int (nI 0), .ref q9, .int (nI 0), .int (nI 0), .int (nI 0), .null, .int (nI 0), .null, .null, .null, .null, .null, .null, .int (nI 0)]) := g345
  have hF := hF.tr f344 (mm_ic 0 rfl mm_i0)
  refine lv_aload_n hx hb dX9_init_503 rfl (lv_at hl 0 rfl) ?_
  refine lv_sipush (v := nI 256) hx hb dX9_init_504 (by decide) ?_
  refine mm_newi S hC hA hR (by decide +kernel) (n := 256) (by omega) (Nat.le_of_ble_eq_true rfl) (Nat.le_of_ble_eq_true rfl) dX9_init_507 (fun q10 H M346 z348 h10 f347 hR => ?_)
  have n_X_q10 : dif X q10 := mm_nenew h0 z348
  have n_q1_q10 : dif q1 q10 := mm_nenew h1 z348
  have n_q2_q10 : dif q2 q10 := mm_nenew h2 z348
  have n_q3_q10 : dif q3 q10 := mm_nenew h3 z348
  have n_q4_q10 : dif q4 q10 := mm_nenew h4 z348
  have n_q5_q10 : dif q5 q10 := mm_nenew h5 z348
  have n_q6_q10 : dif q6 q10 := mm_nenew h6 z348
  have n_q7_q10 : dif q7 q10 := mm_nenew h7 z348
  have n_q8_q10 : dif q8 q10 := mm_nenew h8 z348
  have n_q9_q10 : dif q9 q10 := mm_nenew h9 z348
  have nn_q10 : M q10 = none := hF.none z348 (mm_oc h0 mm_o0)
  have h0 := f347.at h0 mm_n0
  have h1 := f347.at h1 mm_n0
  have h2 := f347.at h2 mm_n0
  have h3 := f347.at h3 mm_n0
  have h4 := f347.at h4 mm_n0
  have h5 := f347.at h5 mm_n0
  have h6 := f347.at h6 mm_n0
  have h7 := f347.at h7 mm_n0
  have h8 := f347.at h8 mm_n0
  have h9 := f347.at h9 mm_n0
  have h10 : M346 q10 = some (ia G 256 (fun _ => 0)) := h10
  have hF := hF.tr f347 mm_i0
  refine mm_putF S hC hR (C := RX9) (T := TX9) (N := 23) (ref := "ForkWatchModel") 14 h0 inRX9 rfl tyX9_ok nmX9 (by decide) (by decide +kernel) (fun _ h9 => h9) rfl hin rfl rfl rfl (Nat.le_of_ble_eq_true rfl) dX9_init_509 (fun H locs M349 g351 f350 hR => ?_)
  have h1 := f350.at h1 (mm_nc (Ne.symm n_X_q1) mm_n0)
  have h2 := f350.at h2 (mm_nc (Ne.symm n_X_q2) mm_n0)
  have h3 := f350.at h3 (mm_nc (Ne.symm n_X_q3) mm_n0)
  have h4 := f350.at h4 (mm_nc (Ne.symm n_X_q4) mm_n0)
  have h5 := f350.at h5 (mm_nc (Ne.symm n_X_q5) mm_n0)
  have h6 := f350.at h6 (mm_nc (Ne.symm n_X_q6) mm_n0)
  have h7 := f350.at h7 (mm_nc (Ne.symm n_X_q7) mm_n0)
  have h8 := f350.at h8 (mm_nc (Ne.symm n_X_q8) mm_n0)
  have h9 := f350.at h9 (mm_nc (Ne.symm n_X_q9) mm_n0)
  have h10 := f350.at h10 (mm_nc (Ne.symm n_X_q10) mm_n0)
  have h0 : M349 X = some (ob 10 [.ref q1, .ref q2, .ref q3, .ref q4, .ref q5, .ref q6, .int (nI 1), .ref q7, .ref q8, .int (nI 0), .ref q9, .int (nI 0), .int (nI 0), .int (nI 0), .ref q10, .int (nI 0), .null, .null, .null, .null, .null, .null, .int (nI 0)]) := g351
  have hF := hF.tr f350 (mm_ic 0 rfl mm_i0)
  refine lv_aload_n hx hb dX9_init_512 rfl (lv_at hl 0 rfl) ?_
  refine lv_bipush (v := nI 32) hx hb dX9_init_513 (by decide) ?_
  refine mm_newi S hC hA hR (by decide +kernel) (n := 32) (by omega) (Nat.le_of_ble_eq_true rfl) (Nat.le_of_ble_eq_true rfl) dX9_init_515 (fun q11 H M352 z354 h11 f353 hR => ?_)
  have n_X_q11 : dif X q11 := mm_nenew h0 z354
  have n_q1_q11 : dif q1 q11 := mm_nenew h1 z354
  have n_q2_q11 : dif q2 q11 := mm_nenew h2 z354
  have n_q3_q11 : dif q3 q11 := mm_nenew h3 z354
  have n_q4_q11 : dif q4 q11 := mm_nenew h4 z354
  have n_q5_q11 : dif q5 q11 := mm_nenew h5 z354
  have n_q6_q11 : dif q6 q11 := mm_nenew h6 z354
  have n_q7_q11 : dif q7 q11 := mm_nenew h7 z354
  have n_q8_q11 : dif q8 q11 := mm_nenew h8 z354
  have n_q9_q11 : dif q9 q11 := mm_nenew h9 z354
  have n_q10_q11 : dif q10 q11 := mm_nenew h10 z354
  have nn_q11 : M q11 = none := hF.none z354 (mm_oc h0 mm_o0)
  have h0 := f353.at h0 mm_n0
  have h1 := f353.at h1 mm_n0
  have h2 := f353.at h2 mm_n0
  have h3 := f353.at h3 mm_n0
  have h4 := f353.at h4 mm_n0
  have h5 := f353.at h5 mm_n0
  have h6 := f353.at h6 mm_n0
  have h7 := f353.at h7 mm_n0
  have h8 := f353.at h8 mm_n0
  have h9 := f353.at h9 mm_n0
  have h10 := f353.at h10 mm_n0
  have h11 : M352 q11 = some (ia G 32 (fun _ => 0)) := h11
  have hF := hF.tr f353 mm_i0
  refine mm_putF S hC hR (C := RX9) (T := TX9) (N := 23) (ref := "ForkWatchModel") 16 h0 inRX9 rfl tyX9_ok nmX9 (by decide) (by decide +kernel) (fun _ h9 => h9) rfl hin rfl rfl rfl (Nat.le_of_ble_eq_true rfl) dX9_init_517 (fun H locs M355 g357 f356 hR => ?_)
  have h1 := f356.at h1 (mm_nc (Ne.symm n_X_q1) mm_n0)
  have h2 := f356.at h2 (mm_nc (Ne.symm n_X_q2) mm_n0)
  have h3 := f356.at h3 (mm_nc (Ne.symm n_X_q3) mm_n0)
  have h4 := f356.at h4 (mm_nc (Ne.symm n_X_q4) mm_n0)
  have h5 := f356.at h5 (mm_nc (Ne.symm n_X_q5) mm_n0)
  have h6 := f356.at h6 (mm_nc (Ne.symm n_X_q6) mm_n0)
  have h7 := f356.at h7 (mm_nc (Ne.symm n_X_q7) mm_n0)
  have h8 := f356.at h8 (mm_nc (Ne.symm n_X_q8) mm_n0)
  have h9 := f356.at h9 (mm_nc (Ne.symm n_X_q9) mm_n0)
  have h10 := f356.at h10 (mm_nc (Ne.symm n_X_q10) mm_n0)
  have h11 := f356.at h11 (mm_nc (Ne.symm n_X_q11) mm_n0)
  have h0 : M355 X = some (ob 10 [.ref q1, .ref q2, .ref q3, .ref q4, .ref q5, .ref q6, .int (nI 1), .ref q7, .ref q8, .int (nI 0), .ref q9, .int (nI 0), .int (nI 0), .int (nI 0), .ref q10, .int (nI 0), .ref q11, .null, .null, .null, .null, .null, .int (nI 0)]) := g357
  have hF := hF.tr f356 (mm_ic 0 rfl mm_i0)
  refine lv_aload_n hx hb dX9_init_520 rfl (lv_at hl 0 rfl) ?_
  refine lv_bipush (v := nI 32) hx hb dX9_init_521 (by decide) ?_
  refine mm_newi S hC hA hR (by decide +kernel) (n := 32) (by omega) (Nat.le_of_ble_eq_true rfl) (Nat.le_of_ble_eq_true rfl) dX9_init_523 (fun q12 H M358 z360 h12 f359 hR => ?_)
  have n_X_q12 : dif X q12 := mm_nenew h0 z360
  have n_q1_q12 : dif q1 q12 := mm_nenew h1 z360
  have n_q2_q12 : dif q2 q12 := mm_nenew h2 z360
  have n_q3_q12 : dif q3 q12 := mm_nenew h3 z360
  have n_q4_q12 : dif q4 q12 := mm_nenew h4 z360
  have n_q5_q12 : dif q5 q12 := mm_nenew h5 z360
  have n_q6_q12 : dif q6 q12 := mm_nenew h6 z360
  have n_q7_q12 : dif q7 q12 := mm_nenew h7 z360
  have n_q8_q12 : dif q8 q12 := mm_nenew h8 z360
  have n_q9_q12 : dif q9 q12 := mm_nenew h9 z360
  have n_q10_q12 : dif q10 q12 := mm_nenew h10 z360
  have n_q11_q12 : dif q11 q12 := mm_nenew h11 z360
  have nn_q12 : M q12 = none := hF.none z360 (mm_oc h0 mm_o0)
  have h0 := f359.at h0 mm_n0
  have h1 := f359.at h1 mm_n0
  have h2 := f359.at h2 mm_n0
  have h3 := f359.at h3 mm_n0
  have h4 := f359.at h4 mm_n0
  have h5 := f359.at h5 mm_n0
  have h6 := f359.at h6 mm_n0
  have h7 := f359.at h7 mm_n0
  have h8 := f359.at h8 mm_n0
  have h9 := f359.at h9 mm_n0
  have h10 := f359.at h10 mm_n0
  have h11 := f359.at h11 mm_n0
  have h12 : M358 q12 = some (ia G 32 (fun _ => 0)) := h12
  have hF := hF.tr f359 mm_i0
  refine mm_putF S hC hR (C := RX9) (T := TX9) (N := 23) (ref := "ForkWatchModel") 17 h0 inRX9 rfl tyX9_ok nmX9 (by decide) (by decide +kernel) (fun _ h9 => h9) rfl hin rfl rfl rfl (Nat.le_of_ble_eq_true rfl) dX9_init_525 (fun H locs M361 g363 f362 hR => ?_)
  have h1 := f362.at h1 (mm_nc (Ne.symm n_X_q1) mm_n0)
  have h2 := f362.at h2 (mm_nc (Ne.symm n_X_q2) mm_n0)
  have h3 := f362.at h3 (mm_nc (Ne.symm n_X_q3) mm_n0)
  have h4 := f362.at h4 (mm_nc (Ne.symm n_X_q4) mm_n0)
  have h5 := f362.at h5 (mm_nc (Ne.symm n_X_q5) mm_n0)
  have h6 := f362.at h6 (mm_nc (Ne.symm n_X_q6) mm_n0)
  have h7 := f362.at h7 (mm_nc (Ne.symm n_X_q7) mm_n0)
  have h8 := f362.at h8 (mm_nc (Ne.symm n_X_q8) mm_n0)
  have h9 := f362.at h9 (mm_nc (Ne.symm n_X_q9) mm_n0)
  have h10 := f362.at h10 (mm_nc (Ne.symm n_X_q10) mm_n0)
  have h11 := f362.at h11 (mm_nc (Ne.symm n_X_q11) mm_n0)
  have h12 := f362.at h12 (mm_nc (Ne.symm n_X_q12) mm_n0)
  have h0 : M361 X = some (ob 10 [.ref q1, .ref q2, .ref q3, .ref q4, .ref q5, .ref q6, .int (nI 1), .ref q7, .ref q8, .int (nI 0), .ref q9, .int (nI 0), .int (nI 0), .int (nI 0), .ref q10, .int (nI 0), .ref q11, .ref q12, .null, .null, .null, .null, .int (nI 0)]) := g363
  have hF := hF.tr f362 (mm_ic 0 rfl mm_i0)
  refine lv_aload_n hx hb dX9_init_528 rfl (lv_at hl 0 rfl) ?_
  refine lv_bipush (v := nI 64) hx hb dX9_init_529 (by decide) ?_
  refine mm_newi S hC hA hR (by decide +kernel) (n := 64) (by omega) (Nat.le_of_ble_eq_true rfl) (Nat.le_of_ble_eq_true rfl) dX9_init_531 (fun q13 H M364 z366 h13 f365 hR => ?_)
  have n_X_q13 : dif X q13 := mm_nenew h0 z366
  have n_q1_q13 : dif q1 q13 := mm_nenew h1 z366
  have n_q2_q13 : dif q2 q13 := mm_nenew h2 z366
  have n_q3_q13 : dif q3 q13 := mm_nenew h3 z366
  have n_q4_q13 : dif q4 q13 := mm_nenew h4 z366
  have n_q5_q13 : dif q5 q13 := mm_nenew h5 z366
  have n_q6_q13 : dif q6 q13 := mm_nenew h6 z366
  have n_q7_q13 : dif q7 q13 := mm_nenew h7 z366
  have n_q8_q13 : dif q8 q13 := mm_nenew h8 z366
  have n_q9_q13 : dif q9 q13 := mm_nenew h9 z366
  have n_q10_q13 : dif q10 q13 := mm_nenew h10 z366
  have n_q11_q13 : dif q11 q13 := mm_nenew h11 z366
  have n_q12_q13 : dif q12 q13 := mm_nenew h12 z366
  have nn_q13 : M q13 = none := hF.none z366 (mm_oc h0 mm_o0)
  have h0 := f365.at h0 mm_n0
  have h1 := f365.at h1 mm_n0
  have h2 := f365.at h2 mm_n0
  have h3 := f365.at h3 mm_n0
  have h4 := f365.at h4 mm_n0
  have h5 := f365.at h5 mm_n0
  have h6 := f365.at h6 mm_n0
  have h7 := f365.at h7 mm_n0
  have h8 := f365.at h8 mm_n0
  have h9 := f365.at h9 mm_n0
  have h10 := f365.at h10 mm_n0
  have h11 := f365.at h11 mm_n0
  have h12 := f365.at h12 mm_n0
  have h13 : M364 q13 = some (ia G 64 (fun _ => 0)) := h13
  have hF := hF.tr f365 mm_i0
  refine mm_putF S hC hR (C := RX9) (T := TX9) (N := 23) (ref := "ForkWatchModel") 18 h0 inRX9 rfl tyX9_ok nmX9 (by decide) (by decide +kernel) (fun _ h9 => h9) rfl hin rfl rfl rfl (Nat.le_of_ble_eq_true rfl) dX9_init_533 (fun H locs M367 g369 f368 hR => ?_)
  have h1 := f368.at h1 (mm_nc (Ne.symm n_X_q1) mm_n0)
  have h2 := f368.at h2 (mm_nc (Ne.symm n_X_q2) mm_n0)
  have h3 := f368.at h3 (mm_nc (Ne.symm n_X_q3) mm_n0)
  have h4 := f368.at h4 (mm_nc (Ne.symm n_X_q4) mm_n0)
  have h5 := f368.at h5 (mm_nc (Ne.symm n_X_q5) mm_n0)
  have h6 := f368.at h6 (mm_nc (Ne.symm n_X_q6) mm_n0)
  have h7 := f368.at h7 (mm_nc (Ne.symm n_X_q7) mm_n0)
  have h8 := f368.at h8 (mm_nc (Ne.symm n_X_q8) mm_n0)
  have h9 := f368.at h9 (mm_nc (Ne.symm n_X_q9) mm_n0)
  have h10 := f368.at h10 (mm_nc (Ne.symm n_X_q10) mm_n0)
  have h11 := f368.at h11 (mm_nc (Ne.symm n_X_q11) mm_n0)
  have h12 := f368.at h12 (mm_nc (Ne.symm n_X_q12) mm_n0)
  have h13 := f368.at h13 (mm_nc (Ne.symm n_X_q13) mm_n0)
  have h0 : M367 X = some (ob 10 [.ref q1, .ref q2, .ref q3, .ref q4, .ref q5, .ref q6, .int (nI 1), .ref q7, .ref q8, .int (nI 0), .ref q9, .int (nI 0), .int (nI 0), .int (nI 0), .ref q10, .int (nI 0), .ref q11, .ref q12, .ref q13, .null, .null, .null, .int (nI 0)]) := g369
  have hF := hF.tr f368 (mm_ic 0 rfl mm_i0)
  refine lv_aload_n hx hb dX9_init_536 rfl (lv_at hl 0 rfl) ?_
  refine lv_bipush (v := nI 8) hx hb dX9_init_537 (by decide) ?_
  refine mm_newi S hC hA hR (by decide +kernel) (n := 8) (by omega) (Nat.le_of_ble_eq_true rfl) (Nat.le_of_ble_eq_true rfl) dX9_init_539 (fun q14 H M370 z372 h14 f371 hR => ?_)
  have n_X_q14 : dif X q14 := mm_nenew h0 z372
  have n_q1_q14 : dif q1 q14 := mm_nenew h1 z372
  have n_q2_q14 : dif q2 q14 := mm_nenew h2 z372
  have n_q3_q14 : dif q3 q14 := mm_nenew h3 z372
  have n_q4_q14 : dif q4 q14 := mm_nenew h4 z372
  have n_q5_q14 : dif q5 q14 := mm_nenew h5 z372
  have n_q6_q14 : dif q6 q14 := mm_nenew h6 z372
  have n_q7_q14 : dif q7 q14 := mm_nenew h7 z372
  have n_q8_q14 : dif q8 q14 := mm_nenew h8 z372
  have n_q9_q14 : dif q9 q14 := mm_nenew h9 z372
  have n_q10_q14 : dif q10 q14 := mm_nenew h10 z372
  have n_q11_q14 : dif q11 q14 := mm_nenew h11 z372
  have n_q12_q14 : dif q12 q14 := mm_nenew h12 z372
  have n_q13_q14 : dif q13 q14 := mm_nenew h13 z372
  have nn_q14 : M q14 = none := hF.none z372 (mm_oc h0 mm_o0)
  have h0 := f371.at h0 mm_n0
  have h1 := f371.at h1 mm_n0
  have h2 := f371.at h2 mm_n0
  have h3 := f371.at h3 mm_n0
  have h4 := f371.at h4 mm_n0
  have h5 := f371.at h5 mm_n0
  have h6 := f371.at h6 mm_n0
  have h7 := f371.at h7 mm_n0
  have h8 := f371.at h8 mm_n0
  have h9 := f371.at h9 mm_n0
  have h10 := f371.at h10 mm_n0
  have h11 := f371.at h11 mm_n0
  have h12 := f371.at h12 mm_n0
  have h13 := f371.at h13 mm_n0
  have h14 : M370 q14 = some (ia G 8 (fun _ => 0)) := h14
  have hF := hF.tr f371 mm_i0
  refine mm_putF S hC hR (C := RX9) (T := TX9) (N := 23) (ref := "ForkWatchModel") 19 h0 inRX9 rfl tyX9_ok nmX9 (by decide) (by decide +kernel) (fun _ h9 => h9) rfl hin rfl rfl rfl (Nat.le_of_ble_eq_true rfl) dX9_init_541 (fun H locs M373 g375 f374 hR => ?_)
  have h1 := f374.at h1 (mm_nc (Ne.symm n_X_q1) mm_n0)
  have h2 := f374.at h2 (mm_nc (Ne.symm n_X_q2) mm_n0)
  have h3 := f374.at h3 (mm_nc (Ne.symm n_X_q3) mm_n0)
  have h4 := f374.at h4 (mm_nc (Ne.symm n_X_q4) mm_n0)
  have h5 := f374.at h5 (mm_nc (Ne.symm n_X_q5) mm_n0)
  have h6 := f374.at h6 (mm_nc (Ne.symm n_X_q6) mm_n0)
  have h7 := f374.at h7 (mm_nc (Ne.symm n_X_q7) mm_n0)
  have h8 := f374.at h8 (mm_nc (Ne.symm n_X_q8) mm_n0)
  have h9 := f374.at h9 (mm_nc (Ne.symm n_X_q9) mm_n0)
  have h10 := f374.at h10 (mm_nc (Ne.symm n_X_q10) mm_n0)
  have h11 := f374.at h11 (mm_nc (Ne.symm n_X_q11) mm_n0)
  have h12 := f374.at h12 (mm_nc (Ne.symm n_X_q12) mm_n0)
  have h13 := f374.at h13 (mm_nc (Ne.symm n_X_q13) mm_n0)
  have h14 := f374.at h14 (mm_nc (Ne.symm n_X_q14) mm_n0)
  have h0 : M373 X = some (ob 10 [.ref q1, .ref q2, .ref q3, .ref q4, .ref q5, .ref q6, .int (nI 1), .ref q7, .ref q8, .int (nI 0), .ref q9, .int (nI 0), .int (nI 0), .int (nI 0), .ref q10, .int (nI 0), .ref q11, .ref q12, .ref q13, .ref q14, .null, .null, .int (nI 0)]) := g375
  have hF := hF.tr f374 (mm_ic 0 rfl mm_i0)
  refine lv_aload_n hx hb dX9_init_544 rfl (lv_at hl 0 rfl) ?_
  refine lv_sipush (v := nI 512) hx hb dX9_init_545 (by decide) ?_
  refine mm_newi S hC hA hR (by decide +kernel) (n := 512) (by omega) (Nat.le_of_ble_eq_true rfl) (Nat.le_of_ble_eq_true rfl) dX9_init_548 (fun q15 H M376 z378 h15 f377 hR => ?_)
  have n_X_q15 : dif X q15 := mm_nenew h0 z378
  have n_q1_q15 : dif q1 q15 := mm_nenew h1 z378
  have n_q2_q15 : dif q2 q15 := mm_nenew h2 z378
  have n_q3_q15 : dif q3 q15 := mm_nenew h3 z378
  have n_q4_q15 : dif q4 q15 := mm_nenew h4 z378
  have n_q5_q15 : dif q5 q15 := mm_nenew h5 z378
  have n_q6_q15 : dif q6 q15 := mm_nenew h6 z378
  have n_q7_q15 : dif q7 q15 := mm_nenew h7 z378
  have n_q8_q15 : dif q8 q15 := mm_nenew h8 z378
  have n_q9_q15 : dif q9 q15 := mm_nenew h9 z378
  have n_q10_q15 : dif q10 q15 := mm_nenew h10 z378
  have n_q11_q15 : dif q11 q15 := mm_nenew h11 z378
  have n_q12_q15 : dif q12 q15 := mm_nenew h12 z378
  have n_q13_q15 : dif q13 q15 := mm_nenew h13 z378
  have n_q14_q15 : dif q14 q15 := mm_nenew h14 z378
  have nn_q15 : M q15 = none := hF.none z378 (mm_oc h0 mm_o0)
  have h0 := f377.at h0 mm_n0
  have h1 := f377.at h1 mm_n0
  have h2 := f377.at h2 mm_n0
  have h3 := f377.at h3 mm_n0
  have h4 := f377.at h4 mm_n0
  have h5 := f377.at h5 mm_n0
  have h6 := f377.at h6 mm_n0
  have h7 := f377.at h7 mm_n0
  have h8 := f377.at h8 mm_n0
  have h9 := f377.at h9 mm_n0
  have h10 := f377.at h10 mm_n0
  have h11 := f377.at h11 mm_n0
  have h12 := f377.at h12 mm_n0
  have h13 := f377.at h13 mm_n0
  have h14 := f377.at h14 mm_n0
  have h15 : M376 q15 = some (ia G 512 (fun _ => 0)) := h15
  have hF := hF.tr f377 mm_i0
  refine mm_putF S hC hR (C := RX9) (T := TX9) (N := 23) (ref := "ForkWatchModel") 20 h0 inRX9 rfl tyX9_ok nmX9 (by decide) (by decide +kernel) (fun _ h9 => h9) rfl hin rfl rfl rfl (Nat.le_of_ble_eq_true rfl) dX9_init_550 (fun H locs M379 g381 f380 hR => ?_)
  have h1 := f380.at h1 (mm_nc (Ne.symm n_X_q1) mm_n0)
  have h2 := f380.at h2 (mm_nc (Ne.symm n_X_q2) mm_n0)
  have h3 := f380.at h3 (mm_nc (Ne.symm n_X_q3) mm_n0)
  have h4 := f380.at h4 (mm_nc (Ne.symm n_X_q4) mm_n0)
  have h5 := f380.at h5 (mm_nc (Ne.symm n_X_q5) mm_n0)
  have h6 := f380.at h6 (mm_nc (Ne.symm n_X_q6) mm_n0)
  have h7 := f380.at h7 (mm_nc (Ne.symm n_X_q7) mm_n0)
  have h8 := f380.at h8 (mm_nc (Ne.symm n_X_q8) mm_n0)
  have h9 := f380.at h9 (mm_nc (Ne.symm n_X_q9) mm_n0)
  have h10 := f380.at h10 (mm_nc (Ne.symm n_X_q10) mm_n0)
  have h11 := f380.at h11 (mm_nc (Ne.symm n_X_q11) mm_n0)
  have h12 := f380.at h12 (mm_nc (Ne.symm n_X_q12) mm_n0)
  have h13 := f380.at h13 (mm_nc (Ne.symm n_X_q13) mm_n0)
  have h14 := f380.at h14 (mm_nc (Ne.symm n_X_q14) mm_n0)
  have h15 := f380.at h15 (mm_nc (Ne.symm n_X_q15) mm_n0)
  have h0 : M379 X = some (ob 10 [.ref q1, .ref q2, .ref q3, .ref q4, .ref q5, .ref q6, .int (nI 1), .ref q7, .ref q8, .int (nI 0), .ref q9, .int (nI 0), .int (nI 0), .int (nI 0), .ref q10, .int (nI 0), .ref q11, .ref q12, .ref q13, .ref q14, .ref q15, .null, .int (nI 0)]) := g381
  have hF := hF.tr f380 (mm_ic 0 rfl mm_i0)
  refine lv_aload_n hx hb dX9_init_553 rfl (lv_at hl 0 rfl) ?_
  refine lv_bipush (v := nI 64) hx hb dX9_init_554 (by decide) ?_
  refine mm_newi S hC hA hR (by decide +kernel) (n := 64) (by omega) (Nat.le_of_ble_eq_true rfl) (Nat.le_of_ble_eq_true rfl) dX9_init_556 (fun q16 H M382 z384 h16 f383 hR => ?_)
  have n_X_q16 : dif X q16 := mm_nenew h0 z384
  have n_q1_q16 : dif q1 q16 := mm_nenew h1 z384
  have n_q2_q16 : dif q2 q16 := mm_nenew h2 z384
  have n_q3_q16 : dif q3 q16 := mm_nenew h3 z384
  have n_q4_q16 : dif q4 q16 := mm_nenew h4 z384
  have n_q5_q16 : dif q5 q16 := mm_nenew h5 z384
  have n_q6_q16 : dif q6 q16 := mm_nenew h6 z384
  have n_q7_q16 : dif q7 q16 := mm_nenew h7 z384
  have n_q8_q16 : dif q8 q16 := mm_nenew h8 z384
  have n_q9_q16 : dif q9 q16 := mm_nenew h9 z384
  have n_q10_q16 : dif q10 q16 := mm_nenew h10 z384
  have n_q11_q16 : dif q11 q16 := mm_nenew h11 z384
  have n_q12_q16 : dif q12 q16 := mm_nenew h12 z384
  have n_q13_q16 : dif q13 q16 := mm_nenew h13 z384
  have n_q14_q16 : dif q14 q16 := mm_nenew h14 z384
  have n_q15_q16 : dif q15 q16 := mm_nenew h15 z384
  have nn_q16 : M q16 = none := hF.none z384 (mm_oc h0 mm_o0)
  have h0 := f383.at h0 mm_n0
  have h1 := f383.at h1 mm_n0
  have h2 := f383.at h2 mm_n0
  have h3 := f383.at h3 mm_n0
  have h4 := f383.at h4 mm_n0
  have h5 := f383.at h5 mm_n0
  have h6 := f383.at h6 mm_n0
  have h7 := f383.at h7 mm_n0
  have h8 := f383.at h8 mm_n0
  have h9 := f383.at h9 mm_n0
  have h10 := f383.at h10 mm_n0
  have h11 := f383.at h11 mm_n0
  have h12 := f383.at h12 mm_n0
  have h13 := f383.at h13 mm_n0
  have h14 := f383.at h14 mm_n0
  have h15 := f383.at h15 mm_n0
  have h16 : M382 q16 = some (ia G 64 (fun _ => 0)) := h16
  have hF := hF.tr f383 mm_i0
  refine mm_putF S hC hR (C := RX9) (T := TX9) (N := 23) (ref := "ForkWatchModel") 21 h0 inRX9 rfl tyX9_ok nmX9 (by decide) (by decide +kernel) (fun _ h9 => h9) rfl hin rfl rfl rfl (Nat.le_of_ble_eq_true rfl) dX9_init_558 (fun H locs M385 g387 f386 hR => ?_)
  have h1 := f386.at h1 (mm_nc (Ne.symm n_X_q1) mm_n0)
  have h2 := f386.at h2 (mm_nc (Ne.symm n_X_q2) mm_n0)
  have h3 := f386.at h3 (mm_nc (Ne.symm n_X_q3) mm_n0)
  have h4 := f386.at h4 (mm_nc (Ne.symm n_X_q4) mm_n0)
  have h5 := f386.at h5 (mm_nc (Ne.symm n_X_q5) mm_n0)
  have h6 := f386.at h6 (mm_nc (Ne.symm n_X_q6) mm_n0)
  have h7 := f386.at h7 (mm_nc (Ne.symm n_X_q7) mm_n0)
  have h8 := f386.at h8 (mm_nc (Ne.symm n_X_q8) mm_n0)
  have h9 := f386.at h9 (mm_nc (Ne.symm n_X_q9) mm_n0)
  have h10 := f386.at h10 (mm_nc (Ne.symm n_X_q10) mm_n0)
  have h11 := f386.at h11 (mm_nc (Ne.symm n_X_q11) mm_n0)
  have h12 := f386.at h12 (mm_nc (Ne.symm n_X_q12) mm_n0)
  have h13 := f386.at h13 (mm_nc (Ne.symm n_X_q13) mm_n0)
  have h14 := f386.at h14 (mm_nc (Ne.symm n_X_q14) mm_n0)
  have h15 := f386.at h15 (mm_nc (Ne.symm n_X_q15) mm_n0)
  have h16 := f386.at h16 (mm_nc (Ne.symm n_X_q16) mm_n0)
  have h0 : M385 X = some (ob 10 [.ref q1, .ref q2, .ref q3, .ref q4, .ref q5, .ref q6, .int (nI 1), .ref q7, .ref q8, .int (nI 0), .ref q9, .int (nI 0), .int (nI 0), .int (nI 0), .ref q10, .int (nI 0), .ref q11, .ref q12, .ref q13, .ref q14, .ref q15, .ref q16, .int (nI 0)]) := g387
  have hF := hF.tr f386 (mm_ic 0 rfl mm_i0)
  refine lv_aload_n hx hb dX9_init_561 rfl (lv_at hl 0 rfl) ?_
  refine lv_iconst (v := nI 0) hx hb dX9_init_562 (by decide) ?_
  have hnd : [X, q1, q2, q3, q4, q5, q6, q7, q8, q9, q10, q11, q12, q13, q14, q15, q16].Nodup := (List.nodup_cons.mpr ⟨(mm_nc n_X_q1 (mm_nc n_X_q2 (mm_nc n_X_q3 (mm_nc n_X_q4 (mm_nc n_X_q5 (mm_nc n_X_q6 (mm_nc n_X_q7 (mm_nc n_X_q8 (mm_nc n_X_q9 (mm_nc n_X_q10 (mm_nc n_X_q11 (mm_nc n_X_q12 (mm_nc n_X_q13 (mm_nc n_X_q14 (mm_nc n_X_q15 (mm_nc n_X_q16 mm_n0)))))))))))))))), (List.nodup_cons.mpr ⟨(mm_nc n_q1_q2 (mm_nc n_q1_q3 (mm_nc n_q1_q4 (mm_nc n_q1_q5 (mm_nc n_q1_q6 (mm_nc n_q1_q7 (mm_nc n_q1_q8 (mm_nc n_q1_q9 (mm_nc n_q1_q10 (mm_nc n_q1_q11 (mm_nc n_q1_q12 (mm_nc n_q1_q13 (mm_nc n_q1_q14 (mm_nc n_q1_q15 (mm_nc n_q1_q16 mm_n0))))))))))))))), (List.nodup_cons.mpr ⟨(mm_nc n_q2_q3 (mm_nc n_q2_q4 (mm_nc n_q2_q5 (mm_nc n_q2_q6 (mm_nc n_q2_q7 (mm_nc n_q2_q8 (mm_nc n_q2_q9 (mm_nc n_q2_q10 (mm_nc n_q2_q11 (mm_nc n_q2_q12 (mm_nc n_q2_q13 (mm_nc n_q2_q14 (mm_nc n_q2_q15 (mm_nc n_q2_q16 mm_n0)))))))))))))), (List.nodup_cons.mpr ⟨(mm_nc n_q3_q4 (mm_nc n_q3_q5 (mm_nc n_q3_q6 (mm_nc n_q3_q7 (mm_nc n_q3_q8 (mm_nc n_q3_q9 (mm_nc n_q3_q10 (mm_nc n_q3_q11 (mm_nc n_q3_q12 (mm_nc n_q3_q13 (mm_nc n_q3_q14 (mm_nc n_q3_q15 (mm_nc n_q3_q16 mm_n0))))))))))))), (List.nodup_cons.mpr ⟨(mm_nc n_q4_q5 (mm_nc n_q4_q6 (mm_nc n_q4_q7 (mm_nc n_q4_q8 (mm_nc n_q4_q9 (mm_nc n_q4_q10 (mm_nc n_q4_q11 (mm_nc n_q4_q12 (mm_nc n_q4_q13 (mm_nc n_q4_q14 (mm_nc n_q4_q15 (mm_nc n_q4_q16 mm_n0)))))))))))), (List.nodup_cons.mpr ⟨(mm_nc n_q5_q6 (mm_nc n_q5_q7 (mm_nc n_q5_q8 (mm_nc n_q5_q9 (mm_nc n_q5_q10 (mm_nc n_q5_q11 (mm_nc n_q5_q12 (mm_nc n_q5_q13 (mm_nc n_q5_q14 (mm_nc n_q5_q15 (mm_nc n_q5_q16 mm_n0))))))))))), (List.nodup_cons.mpr ⟨(mm_nc n_q6_q7 (mm_nc n_q6_q8 (mm_nc n_q6_q9 (mm_nc n_q6_q10 (mm_nc n_q6_q11 (mm_nc n_q6_q12 (mm_nc n_q6_q13 (mm_nc n_q6_q14 (mm_nc n_q6_q15 (mm_nc n_q6_q16 mm_n0)))))))))), (List.nodup_cons.mpr ⟨(mm_nc n_q7_q8 (mm_nc n_q7_q9 (mm_nc n_q7_q10 (mm_nc n_q7_q11 (mm_nc n_q7_q12 (mm_nc n_q7_q13 (mm_nc n_q7_q14 (mm_nc n_q7_q15 (mm_nc n_q7_q16 mm_n0))))))))), (List.nodup_cons.mpr ⟨(mm_nc n_q8_q9 (mm_nc n_q8_q10 (mm_nc n_q8_q11 (mm_nc n_q8_q12 (mm_nc n_q8_q13 (mm_nc n_q8_q14 (mm_nc n_q8_q15 (mm_nc n_q8_q16 mm_n0)))))))), (List.nodup_cons.mpr ⟨(mm_nc n_q9_q10 (mm_nc n_q9_q11 (mm_nc n_q9_q12 (mm_nc n_q9_q13 (mm_nc n_q9_q14 (mm_nc n_q9_q15 (mm_nc n_q9_q16 mm_n0))))))), (List.nodup_cons.mpr ⟨(mm_nc n_q10_q11 (mm_nc n_q10_q12 (mm_nc n_q10_q13 (mm_nc n_q10_q14 (mm_nc n_q10_q15 (mm_nc n_q10_q16 mm_n0)))))), (List.nodup_cons.mpr ⟨(mm_nc n_q11_q12 (mm_nc n_q11_q13 (mm_nc n_q11_q14 (mm_nc n_q11_q15 (mm_nc n_q11_q16 mm_n0))))), (List.nodup_cons.mpr ⟨(mm_nc n_q12_q13 (mm_nc n_q12_q14 (mm_nc n_q12_q15 (mm_nc n_q12_q16 mm_n0)))), (List.nodup_cons.mpr ⟨(mm_nc n_q13_q14 (mm_nc n_q13_q15 (mm_nc n_q13_q16 mm_n0))), (List.nodup_cons.mpr ⟨(mm_nc n_q14_q15 (mm_nc n_q14_q16 mm_n0)), (List.nodup_cons.mpr ⟨(mm_nc n_q15_q16 mm_n0), (List.nodup_cons.mpr ⟨mm_n0, List.nodup_nil⟩)⟩)⟩)⟩)⟩)⟩)⟩)⟩)⟩)⟩)⟩)⟩)⟩)⟩)⟩)⟩)⟩)
  obtain ⟨md, emd⟩ : ∃ z : Nat → Nat, z = fun r => ([X, q1, q2, q3, q4, q5, q6, q7, q8, q9, q10, q11, q12, q13, q14, q15, q16] : List Nat).getD r 0 := ⟨_, rfl⟩
  have hJ : yI md := by rw [emd]; exact mdf_I hnd rfl
  have a0 : md 0 = X := by rw [emd]; rfl
  have a1 : md 1 = q1 := by rw [emd]; rfl
  have a2 : md 2 = q2 := by rw [emd]; rfl
  have a3 : md 3 = q3 := by rw [emd]; rfl
  have a4 : md 4 = q4 := by rw [emd]; rfl
  have a5 : md 5 = q5 := by rw [emd]; rfl
  have a6 : md 6 = q6 := by rw [emd]; rfl
  have a7 : md 7 = q7 := by rw [emd]; rfl
  have a8 : md 8 = q8 := by rw [emd]; rfl
  have a9 : md 9 = q9 := by rw [emd]; rfl
  have a10 : md 10 = q10 := by rw [emd]; rfl
  have a11 : md 11 = q11 := by rw [emd]; rfl
  have a12 : md 12 = q12 := by rw [emd]; rfl
  have a13 : md 13 = q13 := by rw [emd]; rfl
  have a14 : md 14 = q14 := by rw [emd]; rfl
  have a15 : md 15 = q15 := by rw [emd]; rfl
  have a16 : md 16 = q16 := by rw [emd]; rfl
  rw [← a0, ← a1, ← a2, ← a3, ← a4, ← a5, ← a6, ← a7, ← a8, ← a9, ← a10, ← a11, ← a12, ← a13, ← a14, ← a15, ← a16] at h0
  rw [← a1] at h1
  rw [← a2] at h2
  rw [← a3] at h3
  rw [← a4] at h4
  rw [← a5] at h5
  rw [← a6] at h6
  rw [← a7] at h7
  rw [← a8] at h8
  rw [← a9] at h9
  rw [← a10] at h10
  rw [← a11] at h11
  rw [← a12] at h12
  rw [← a13] at h13
  rw [← a14] at h14
  rw [← a15] at h15
  rw [← a16] at h16
  have nn1 : M (md 1) = none := by rw [a1]; exact nn_q1
  have nn2 : M (md 2) = none := by rw [a2]; exact nn_q2
  have nn3 : M (md 3) = none := by rw [a3]; exact nn_q3
  have nn4 : M (md 4) = none := by rw [a4]; exact nn_q4
  have nn5 : M (md 5) = none := by rw [a5]; exact nn_q5
  have nn6 : M (md 6) = none := by rw [a6]; exact nn_q6
  have nn7 : M (md 7) = none := by rw [a7]; exact nn_q7
  have nn8 : M (md 8) = none := by rw [a8]; exact nn_q8
  have nn9 : M (md 9) = none := by rw [a9]; exact nn_q9
  have nn10 : M (md 10) = none := by rw [a10]; exact nn_q10
  have nn11 : M (md 11) = none := by rw [a11]; exact nn_q11
  have nn12 : M (md 12) = none := by rw [a12]; exact nn_q12
  have nn13 : M (md 13) = none := by rw [a13]; exact nn_q13
  have nn14 : M (md 14) = none := by rw [a14]; exact nn_q14
  have nn15 : M (md 15) = none := by rw [a15]; exact nn_q15
  have nn16 : M (md 16) = none := by rw [a16]; exact nn_q16
  rw [← a0] at hl hF
  have hS : yS G M385 md (nI 1) (nI 0) (nI 0) (nI 0) (nI 0) (nI 0) 0 _ _ := ⟨h0, h10, h11, ⟨_, h1, hK⟩, ⟨_, h2, hB⟩, ⟨_, h12⟩, ⟨_, h13⟩, ⟨_, h14⟩⟩
  refine W.eq (g2 := F0 m0 563 ls [.int (nI 0), .ref (md 0)]) (by rw [a0]) ?_
  refine mm_callv hA hR (va_runV (As := [.int (nI 0)]) (rest := []) S (c_X9_findRoot l G M385 _ md _ _ _ _ _ _ _ _ _ 0 _ _ _ (fun _ => 0) h5 h6 h15 hJ hS (by decide) (fun x hx => ⟨rfl, by decide⟩) (fun x hx => by show (0 : Int32) &&& nI 255 = 0; decide)) (cwV 1 S.2.2.2.2 gX9_init_X9_findRoot rfl rfl rfl (by decide +kernel) ⟨Nat.le_of_ble_eq_true rfl, Nat.le_of_ble_eq_true rfl⟩) (mm_preV hC hA hR _ h0 rfl) rfl rfl hl.1 rfl (lv_room (Nat.le_of_ble_eq_true rfl)) dX9_init_563 ⟨Nat.le_of_ble_eq_true rfl, Nat.le_of_ble_eq_true rfl⟩) (fun M389 H locs hp hR => ?_)
  obtain ⟨fa, da, ta, hS, h15, hT, ff⟩ := hp
  have h3 := ff.at h3 (mm_nc (yne hJ (by decide) (by decide) (by decide)) (mm_nc (yne hJ (by decide) (by decide) (by decide)) (mm_nc (yne hJ (by decide) (by decide) (by decide)) (mm_nc (yne hJ (by decide) (by decide) (by decide)) (mm_nc (yne hJ (by decide) (by decide) (by decide)) (mm_nc (yne hJ (by decide) (by decide) (by decide)) mm_n0))))))
  have h4 := ff.at h4 (mm_nc (yne hJ (by decide) (by decide) (by decide)) (mm_nc (yne hJ (by decide) (by decide) (by decide)) (mm_nc (yne hJ (by decide) (by decide) (by decide)) (mm_nc (yne hJ (by decide) (by decide) (by decide)) (mm_nc (yne hJ (by decide) (by decide) (by decide)) (mm_nc (yne hJ (by decide) (by decide) (by decide)) mm_n0))))))
  have h5 := ff.at h5 (mm_nc (yne hJ (by decide) (by decide) (by decide)) (mm_nc (yne hJ (by decide) (by decide) (by decide)) (mm_nc (yne hJ (by decide) (by decide) (by decide)) (mm_nc (yne hJ (by decide) (by decide) (by decide)) (mm_nc (yne hJ (by decide) (by decide) (by decide)) (mm_nc (yne hJ (by decide) (by decide) (by decide)) mm_n0))))))
  have h6 := ff.at h6 (mm_nc (yne hJ (by decide) (by decide) (by decide)) (mm_nc (yne hJ (by decide) (by decide) (by decide)) (mm_nc (yne hJ (by decide) (by decide) (by decide)) (mm_nc (yne hJ (by decide) (by decide) (by decide)) (mm_nc (yne hJ (by decide) (by decide) (by decide)) (mm_nc (yne hJ (by decide) (by decide) (by decide)) mm_n0))))))
  have h7 := ff.at h7 (mm_nc (yne hJ (by decide) (by decide) (by decide)) (mm_nc (yne hJ (by decide) (by decide) (by decide)) (mm_nc (yne hJ (by decide) (by decide) (by decide)) (mm_nc (yne hJ (by decide) (by decide) (by decide)) (mm_nc (yne hJ (by decide) (by decide) (by decide)) (mm_nc (yne hJ (by decide) (by decide) (by decide)) mm_n0))))))
  have h8 := ff.at h8 (mm_nc (yne hJ (by decide) (by decide) (by decide)) (mm_nc (yne hJ (by decide) (by decide) (by decide)) (mm_nc (yne hJ (by decide) (by decide) (by decide)) (mm_nc (yne hJ (by decide) (by decide) (by decide)) (mm_nc (yne hJ (by decide) (by decide) (by decide)) (mm_nc (yne hJ (by decide) (by decide) (by decide)) mm_n0))))))
  have h9 := ff.at h9 (mm_nc (yne hJ (by decide) (by decide) (by decide)) (mm_nc (yne hJ (by decide) (by decide) (by decide)) (mm_nc (yne hJ (by decide) (by decide) (by decide)) (mm_nc (yne hJ (by decide) (by decide) (by decide)) (mm_nc (yne hJ (by decide) (by decide) (by decide)) (mm_nc (yne hJ (by decide) (by decide) (by decide)) mm_n0))))))
  have h16 := ff.at h16 (mm_nc (yne hJ (by decide) (by decide) (by decide)) (mm_nc (yne hJ (by decide) (by decide) (by decide)) (mm_nc (yne hJ (by decide) (by decide) (by decide)) (mm_nc (yne hJ (by decide) (by decide) (by decide)) (mm_nc (yne hJ (by decide) (by decide) (by decide)) (mm_nc (yne hJ (by decide) (by decide) (by decide)) mm_n0))))))
  have h0 : M389 (md 0) = some (ob 10 [.ref (md 1), .ref (md 2), .ref (md 3), .ref (md 4), .ref (md 5), .ref (md 6), .int (nI 1), .ref (md 7), .ref (md 8), .int (nI 0), .ref (md 9), .int (nI 0), .int (nI 0), .int (nI 0), .ref (md 10), .int (nI 0), .ref (md 11), .ref (md 12), .ref (md 13), .ref (md 14), .ref (md 15), .ref (md 16), .int (nI 0)]) := hS.1
  have h10 : M389 (md 10) = some (ia G 256 fa) := hS.2.1
  have h11 : M389 (md 11) = some (ia G 32 da) := hS.2.2.1
  have h15 : M389 (md 15) = some (ia G 512 ta) := h15
  have hF := hF.tr ff (mm_ic 0 rfl (mm_in nn10 (mm_in nn11 (mm_in nn13 (mm_in nn14 (mm_in nn15 mm_i0))))))
  have hT : ∀ k, k < 32 → ta k = (rtn (fun _ => 0) (fun _ => 0)) (32 + k) := fun k hk => by rw [rtn_at]; exact hT k hk
  refine lv_iconst (v := nI 0) hx hb dX9_init_566 (by decide) ?_
  refine lv_istore_n (lv' := [(1, .int (nI 0)), (0, .ref (md 0))]) hx hb dX9_init_567 rfl hl (by decide) rfl (fun ls hl => ?_)
  have loopA : ∀ (n : Nat) (c : Nat) (w22 : Int32) (fm dm s3 r4 pm : Nat → Int32) (M1 : mm_M) (H : Heap) (locs : List Loc) (ls : Array Slot), (4 < c + n) → (c ≤ 4) → (yS G M1 md (nI 1) (nI 0) (nI 0) (nI 0) (nI 0) w22 0 fm dm) → (M1 (md 3) = some (ia G 2016 s3)) → (M1 (md 4) = some (ia G 336 r4)) → (M1 (md 5) = some (ia G 1152 (fun _ => 0))) → (M1 (md 6) = some (ia G 96 (fun _ => 0))) → (M1 (md 7) = some (ia G 4 (fun _ => 0))) → (M1 (md 8) = some (ia G 64 (fun _ => 0))) → (M1 (md 9) = some (ia G 12 (fun _ => 0))) → (M1 (md 15) = some (ia G 512 ta)) → (M1 (md 16) = some (ia G 64 pm)) → (∀ q, q < c → ∀ i, i < 84 → r4 (84 * q + i) = sgn (rtn (fun _ => 0) (fun _ => 0)) (s0 q) i) → (∀ q, q < c → ∀ i, i < 84 → s3 (84 * q + i) = sgn (rtn (fun _ => 0) (fun _ => 0)) (s0 q) i) → (mm_fr [md 0] M M1) → mm_R G s (mm_A M sz) M1 H locs → lv_has ls 3 [(0, .ref (md 0)), (1, .int (nI c))] → W p0 l e0 ({ frames := 6, cells := 16, slots := 4720, locals := 280 } : Room) s m0 ([.ref X] : List Value).toArray be0 me0 c0 H locs 16 4720 (MQ be0 (va_Qv (fun M' => ∃ md : Nat → Nat, md 0 = X ∧ yI md ∧ (∀ r, 1 ≤ r → r < 17 → M (md r) = none) ∧ yA G M' md 0 0 (nI 0) (nI 0) (fun _ => 0) (fun _ => 0) (fun _ => 0) (fun c => sgn (rtn (fun _ => 0) (fun _ => 0)) (s0 c)) 1 (fun _ c => va_cpy (sgn (rtn (fun _ => 0) (fun _ => 0)) (s0 c)) (s0 c) 0 0 84) (fun _ _ => 0) (fun _ _ => 0) ∧ mm_fr [X] M M') (fun M' t => mm_H G (mm_A M sz) M' t.heap) (mm_A M sz)) ([.ref X] : List Value).toArray s 16 4720 (mm_A M sz)) (F0 m0 568 ls []) := by
    intro n
    induction n with
    | zero =>
      intro c w22 fm dm s3 r4 pm M1 H locs ls hn hi hS h3 h4 h5 h6 h7 h8 h9 h15 h16 hr4 hs3 hF hR hl
      omega
    | succ n ih =>
      intro c w22 fm dm s3 r4 pm M1 H locs ls hn hi hS h3 h4 h5 h6 h7 h8 h9 h15 h16 hr4 hs3 hF hR hl
      have h0 : M1 (md 0) = some (ob 10 [.ref (md 1), .ref (md 2), .ref (md 3), .ref (md 4), .ref (md 5), .ref (md 6), .int (nI 1), .ref (md 7), .ref (md 8), .int (nI 0), .ref (md 9), .int (nI 0), .int (nI 0), .int (nI 0), .ref (md 10), .int (nI 0), .ref (md 11), .ref (md 12), .ref (md 13), .ref (md 14), .ref (md 15), .ref (md 16), .int w22]) := hS.1
      have h10 : M1 (md 10) = some (ia G 256 fm) := hS.2.1
      have h11 : M1 (md 11) = some (ia G 32 dm) := hS.2.2.1
      refine lv_iload_n hx hb dX9_init_568 rfl (lv_at hl 1 rfl) ?_
      refine lv_iconst (v := nI 4) hx hb dX9_init_569 (by decide) ?_
      refine lv_icmp_ge (tgt := 624) hx hb dX9_init_570 (by decide) (fun c390 => ?_) (fun c390 => ?_)
      · have c390 : 4 ≤ c := (nI_leI (a := 4) (b := c) (by omega) (by omega)).mp c390
        have e4 : 4 = c := by omega
        subst e4
        rw [a0] at hF
        have y3 : ∀ j, j < 1 → ∀ c, c < 4 → ∀ i, i < 84 → s3 (84 * (4 * j + c) + i) = va_cpy (sgn (rtn (fun _ => 0) (fun _ => 0)) (s0 c)) (s0 c) 0 0 84 i := fun j hj c hc i hi => by
          rw [show 84 * (4 * j + c) + i = 84 * c + i by omega, hs3 c hc i hi, cpy_in (by omega) (by omega), show 0 + (i - 0) = i by omega]
        have nn : ∀ r, 1 ≤ r → r < 17 → M (md r) = none := fun r h1 h2 => by
          rcases (show r = 1 ∨ r = 2 ∨ r = 3 ∨ r = 4 ∨ r = 5 ∨ r = 6 ∨ r = 7 ∨ r = 8 ∨ r = 9 ∨ r = 10 ∨ r = 11 ∨ r = 12 ∨ r = 13 ∨ r = 14 ∨ r = 15 ∨ r = 16 by omega) with e | e | e | e | e | e | e | e | e | e | e | e | e | e | e | e <;> subst e
          · exact nn1
          · exact nn2
          · exact nn3
          · exact nn4
          · exact nn5
          · exact nn6
          · exact nn7
          · exact nn8
          · exact nn9
          · exact nn10
          · exact nn11
          · exact nn12
          · exact nn13
          · exact nn14
          · exact nn15
          · exact nn16
        exact mm_vret S hr hlocks hR ⟨md, a0, hJ, nn, ⟨⟨_, _, _, hS⟩, ⟨_, h3, y3⟩, ⟨_, h4, hr4⟩, ⟨_, h5, fun _ _ _ _ => rfl⟩, ⟨_, h6, fun _ _ _ _ => rfl⟩, ⟨_, h7, fun _ _ => rfl⟩, ⟨_, h8, fun _ h => absurd h (Nat.not_lt_zero _)⟩, ⟨_, h9, fun _ h => absurd h (Nat.not_lt_zero _)⟩, ⟨_, h15⟩, ⟨_, h16⟩⟩, hF⟩ dX9_init_624
      · have c390 : ¬ (4 ≤ c) := fun z => c390 ((nI_leI (a := 4) (b := c) (by omega) (by omega)).mpr z)
        have ihA := ih
        refine lv_iconst (v := nI 0) hx hb dX9_init_573 (by decide) ?_
        refine lv_istore_n (lv' := [(2, .int (nI 0)), (0, .ref (md 0)), (1, .int (nI c))]) hx hb dX9_init_574 rfl hl (by decide) rfl (fun ls hl => ?_)
        have loopB : ∀ (n : Nat) (k : Nat) (r5 : Nat → Int32) (M1 : mm_M) (H : Heap) (locs : List Loc) (ls : Array Slot), (84 < k + n) → (k ≤ 84) → (yS G M1 md (nI 1) (nI 0) (nI 0) (nI 0) (nI 0) w22 0 fm dm) → (M1 (md 3) = some (ia G 2016 s3)) → (M1 (md 4) = some (ia G 336 r5)) → (M1 (md 5) = some (ia G 1152 (fun _ => 0))) → (M1 (md 6) = some (ia G 96 (fun _ => 0))) → (M1 (md 7) = some (ia G 4 (fun _ => 0))) → (M1 (md 8) = some (ia G 64 (fun _ => 0))) → (M1 (md 9) = some (ia G 12 (fun _ => 0))) → (M1 (md 15) = some (ia G 512 ta)) → (M1 (md 16) = some (ia G 64 pm)) → (∀ t, t < k → r5 (84 * c + t) = s0 c t) → (∀ t, t < 84 * c → r5 t = r4 t) → (mm_fr [md 0] M M1) → mm_R G s (mm_A M sz) M1 H locs → lv_has ls 3 [(0, .ref (md 0)), (1, .int (nI c)), (2, .int (nI k))] → W p0 l e0 ({ frames := 6, cells := 16, slots := 4720, locals := 280 } : Room) s m0 ([.ref X] : List Value).toArray be0 me0 c0 H locs 16 4720 (MQ be0 (va_Qv (fun M' => ∃ md : Nat → Nat, md 0 = X ∧ yI md ∧ (∀ r, 1 ≤ r → r < 17 → M (md r) = none) ∧ yA G M' md 0 0 (nI 0) (nI 0) (fun _ => 0) (fun _ => 0) (fun _ => 0) (fun c => sgn (rtn (fun _ => 0) (fun _ => 0)) (s0 c)) 1 (fun _ c => va_cpy (sgn (rtn (fun _ => 0) (fun _ => 0)) (s0 c)) (s0 c) 0 0 84) (fun _ _ => 0) (fun _ _ => 0) ∧ mm_fr [X] M M') (fun M' t => mm_H G (mm_A M sz) M' t.heap) (mm_A M sz)) ([.ref X] : List Value).toArray s 16 4720 (mm_A M sz)) (F0 m0 575 ls []) := by
          intro n
          induction n with
          | zero =>
            intro k r5 M1 H locs ls hn hi hS h3 h4 h5 h6 h7 h8 h9 h15 h16 g1 g2 hF hR hl
            omega
          | succ n ih =>
            intro k r5 M1 H locs ls hn hi hS h3 h4 h5 h6 h7 h8 h9 h15 h16 g1 g2 hF hR hl
            have h0 : M1 (md 0) = some (ob 10 [.ref (md 1), .ref (md 2), .ref (md 3), .ref (md 4), .ref (md 5), .ref (md 6), .int (nI 1), .ref (md 7), .ref (md 8), .int (nI 0), .ref (md 9), .int (nI 0), .int (nI 0), .int (nI 0), .ref (md 10), .int (nI 0), .ref (md 11), .ref (md 12), .ref (md 13), .ref (md 14), .ref (md 15), .ref (md 16), .int w22]) := hS.1
            have h10 : M1 (md 10) = some (ia G 256 fm) := hS.2.1
            have h11 : M1 (md 11) = some (ia G 32 dm) := hS.2.2.1
            refine lv_iload_n hx hb dX9_init_575 rfl (lv_at hl 2 rfl) ?_
            refine lv_bipush (v := nI 84) hx hb dX9_init_576 (by decide) ?_
            refine lv_icmp_ge (tgt := 607) hx hb dX9_init_578 (by decide) (fun c391 => ?_) (fun c391 => ?_)
            · have c391 : 84 ≤ k := (nI_leI (a := 84) (b := k) (by omega) (by omega)).mp c391
              have e4 : 84 = k := by omega
              subst e4
              refine lv_aload_n hx hb dX9_init_607 rfl (lv_at hl 0 rfl) ?_
              refine lv_iload_n hx hb dX9_init_608 rfl (lv_at hl 1 rfl) ?_
              refine mm_callv hA hR (va_runV (As := [.int (nI c)]) (rest := []) S (c_X9_sign l G M1 _ md _ _ _ _ _ _ _ _ _ c r5 ta pm h4 h15 h16 hJ hS (by omega) (fun i hi => by show byt (r5 (84 * c + i)); rw [g1 i (by omega)]; exact s0_by (by omega) i hi) (fun k hk => by rw [hT k hk, rtn_at]; exact byt_root _ _ _)) (cwV 1 S.2.2.2.2 gX9_init_X9_sign rfl rfl rfl (by decide +kernel) ⟨Nat.le_of_ble_eq_true rfl, Nat.le_of_ble_eq_true rfl⟩) (mm_preV hC hA hR _ h0 rfl) rfl rfl hl.1 rfl (lv_room (Nat.le_of_ble_eq_true rfl)) dX9_init_609 ⟨Nat.le_of_ble_eq_true rfl, Nat.le_of_ble_eq_true rfl⟩) (fun M393 H locs hp hR => ?_)
              obtain ⟨fd, dd, r6, pb, hS, h4, h16, hq1, hq2, ff⟩ := hp
              have h3 := ff.at h3 (mm_nc (yne hJ (by decide) (by decide) (by decide)) (mm_nc (yne hJ (by decide) (by decide) (by decide)) (mm_nc (yne hJ (by decide) (by decide) (by decide)) (mm_nc (yne hJ (by decide) (by decide) (by decide)) (mm_nc (yne hJ (by decide) (by decide) (by decide)) (mm_nc (yne hJ (by decide) (by decide) (by decide)) (mm_nc (yne hJ (by decide) (by decide) (by decide)) (mm_nc (yne hJ (by decide) (by decide) (by decide)) mm_n0))))))))
              have h5 := ff.at h5 (mm_nc (yne hJ (by decide) (by decide) (by decide)) (mm_nc (yne hJ (by decide) (by decide) (by decide)) (mm_nc (yne hJ (by decide) (by decide) (by decide)) (mm_nc (yne hJ (by decide) (by decide) (by decide)) (mm_nc (yne hJ (by decide) (by decide) (by decide)) (mm_nc (yne hJ (by decide) (by decide) (by decide)) (mm_nc (yne hJ (by decide) (by decide) (by decide)) (mm_nc (yne hJ (by decide) (by decide) (by decide)) mm_n0))))))))
              have h6 := ff.at h6 (mm_nc (yne hJ (by decide) (by decide) (by decide)) (mm_nc (yne hJ (by decide) (by decide) (by decide)) (mm_nc (yne hJ (by decide) (by decide) (by decide)) (mm_nc (yne hJ (by decide) (by decide) (by decide)) (mm_nc (yne hJ (by decide) (by decide) (by decide)) (mm_nc (yne hJ (by decide) (by decide) (by decide)) (mm_nc (yne hJ (by decide) (by decide) (by decide)) (mm_nc (yne hJ (by decide) (by decide) (by decide)) mm_n0))))))))
              have h7 := ff.at h7 (mm_nc (yne hJ (by decide) (by decide) (by decide)) (mm_nc (yne hJ (by decide) (by decide) (by decide)) (mm_nc (yne hJ (by decide) (by decide) (by decide)) (mm_nc (yne hJ (by decide) (by decide) (by decide)) (mm_nc (yne hJ (by decide) (by decide) (by decide)) (mm_nc (yne hJ (by decide) (by decide) (by decide)) (mm_nc (yne hJ (by decide) (by decide) (by decide)) (mm_nc (yne hJ (by decide) (by decide) (by decide)) mm_n0))))))))
              have h8 := ff.at h8 (mm_nc (yne hJ (by decide) (by decide) (by decide)) (mm_nc (yne hJ (by decide) (by decide) (by decide)) (mm_nc (yne hJ (by decide) (by decide) (by decide)) (mm_nc (yne hJ (by decide) (by decide) (by decide)) (mm_nc (yne hJ (by decide) (by decide) (by decide)) (mm_nc (yne hJ (by decide) (by decide) (by decide)) (mm_nc (yne hJ (by decide) (by decide) (by decide)) (mm_nc (yne hJ (by decide) (by decide) (by decide)) mm_n0))))))))
              have h9 := ff.at h9 (mm_nc (yne hJ (by decide) (by decide) (by decide)) (mm_nc (yne hJ (by decide) (by decide) (by decide)) (mm_nc (yne hJ (by decide) (by decide) (by decide)) (mm_nc (yne hJ (by decide) (by decide) (by decide)) (mm_nc (yne hJ (by decide) (by decide) (by decide)) (mm_nc (yne hJ (by decide) (by decide) (by decide)) (mm_nc (yne hJ (by decide) (by decide) (by decide)) (mm_nc (yne hJ (by decide) (by decide) (by decide)) mm_n0))))))))
              have h15 := ff.at h15 (mm_nc (yne hJ (by decide) (by decide) (by decide)) (mm_nc (yne hJ (by decide) (by decide) (by decide)) (mm_nc (yne hJ (by decide) (by decide) (by decide)) (mm_nc (yne hJ (by decide) (by decide) (by decide)) (mm_nc (yne hJ (by decide) (by decide) (by decide)) (mm_nc (yne hJ (by decide) (by decide) (by decide)) (mm_nc (yne hJ (by decide) (by decide) (by decide)) (mm_nc (yne hJ (by decide) (by decide) (by decide)) mm_n0))))))))
              have h0 : M393 (md 0) = some (ob 10 [.ref (md 1), .ref (md 2), .ref (md 3), .ref (md 4), .ref (md 5), .ref (md 6), .int (nI 1), .ref (md 7), .ref (md 8), .int (nI 0), .ref (md 9), .int (nI 0), .int (nI 0), .int (nI 0), .ref (md 10), .int (nI 0), .ref (md 11), .ref (md 12), .ref (md 13), .ref (md 14), .ref (md 15), .ref (md 16), .int (nI 52)]) := hS.1
              have h10 : M393 (md 10) = some (ia G 256 fd) := hS.2.1
              have h11 : M393 (md 11) = some (ia G 32 dd) := hS.2.2.1
              have h4 : M393 (md 4) = some (ia G 336 r6) := h4
              have h16 : M393 (md 16) = some (ia G 64 pb) := h16
              have hF := hF.tr ff (mm_ic 0 rfl (mm_in nn10 (mm_in nn11 (mm_in nn12 (mm_in nn13 (mm_in nn14 (mm_in nn4 (mm_in nn16 mm_i0))))))))
              have hq1 : ∀ i, i < 84 → r6 (84 * c + i) = sgn (rtn (fun _ => 0) (fun _ => 0)) (s0 c) i := fun i hi => by rw [hq1 i hi]; exact sgn_ag (fun j hj => by rw [← hT j hj]; congr 1; omega) (fun j hj => g1 j (by omega)) i hi
              refine lv_aload_n hx hb dX9_init_612 rfl (lv_at hl 0 rfl) ?_
              refine lv_iconst (v := nI 0) hx hb dX9_init_613 (by decide) ?_
              refine lv_iload_n hx hb dX9_init_614 rfl (lv_at hl 1 rfl) ?_
              refine mm_callv hA hR (va_runV (As := [.int (nI 0), .int (nI c)]) (rest := []) S (c_X9_tell l G M393 _ md _ _ _ _ _ _ _ _ _ 0 c s3 r6 h3 h4 hJ hS (by decide) (by omega)) (cwV 2 S.2.2.2.2 gX9_init_X9_tell rfl rfl rfl (by decide +kernel) ⟨Nat.le_of_ble_eq_true rfl, Nat.le_of_ble_eq_true rfl⟩) (mm_preV hC hA hR _ h0 rfl) rfl rfl hl.1 rfl (lv_room (Nat.le_of_ble_eq_true rfl)) dX9_init_615 ⟨Nat.le_of_ble_eq_true rfl, Nat.le_of_ble_eq_true rfl⟩) (fun M395 H locs hp hR => ?_)
              obtain ⟨h3, ff⟩ := hp
              have h4 := ff.at h4 (mm_nc (yne hJ (by decide) (by decide) (by decide)) mm_n0)
              have h5 := ff.at h5 (mm_nc (yne hJ (by decide) (by decide) (by decide)) mm_n0)
              have h6 := ff.at h6 (mm_nc (yne hJ (by decide) (by decide) (by decide)) mm_n0)
              have h7 := ff.at h7 (mm_nc (yne hJ (by decide) (by decide) (by decide)) mm_n0)
              have h8 := ff.at h8 (mm_nc (yne hJ (by decide) (by decide) (by decide)) mm_n0)
              have h9 := ff.at h9 (mm_nc (yne hJ (by decide) (by decide) (by decide)) mm_n0)
              have h15 := ff.at h15 (mm_nc (yne hJ (by decide) (by decide) (by decide)) mm_n0)
              have h16 := ff.at h16 (mm_nc (yne hJ (by decide) (by decide) (by decide)) mm_n0)
              have h0 := ff.at h0 (mm_nc (yne hJ (by decide) (by decide) (by decide)) mm_n0)
              have h10 := ff.at h10 (mm_nc (yne hJ (by decide) (by decide) (by decide)) mm_n0)
              have h11 := ff.at h11 (mm_nc (yne hJ (by decide) (by decide) (by decide)) mm_n0)
              have h3 : M395 (md 3) = some (ia G 2016 (va_cpy r6 s3 (84 * c) (84 * (4 * 0 + c)) 84)) := h3
              have hF := hF.tr ff (mm_in nn3 mm_i0)
              have hS := hS.out ff (mm_nc (yne hJ (by decide) (by decide) (by decide)) mm_n0) (mm_nc (yne hJ (by decide) (by decide) (by decide)) mm_n0) (mm_nc (yne hJ (by decide) (by decide) (by decide)) mm_n0) (mm_nc (yne hJ (by decide) (by decide) (by decide)) mm_n0) (mm_nc (yne hJ (by decide) (by decide) (by decide)) mm_n0) (mm_nc (yne hJ (by decide) (by decide) (by decide)) mm_n0) (mm_nc (yne hJ (by decide) (by decide) (by decide)) mm_n0) (mm_nc (yne hJ (by decide) (by decide) (by decide)) mm_n0)
              refine lv_iinc (v := (nI (c + 1))) (lv' := [(1, .int (nI (c + 1))), (0, .ref (md 0)), (2, .int (nI 84))]) hx hb dX9_init_618 hl (k := 1) rfl (by rw [show Int32.ofInt 1 = nI 1 from by decide]; exact nI_add _ _) (by decide) rfl (fun ls hl => ?_)
              refine lv_goto (tgt := 568) hx hb dX9_init_621 (by decide) ?_
              have p4 : ∀ q, q < c + 1 → ∀ i, i < 84 → r6 (84 * q + i) = sgn (rtn (fun _ => 0) (fun _ => 0)) (s0 q) i := fun q hq i hi => by
                by_cases e : q = c
                · rw [e]; exact hq1 i hi
                · rw [hq2 _ (by omega), g2 _ (by omega)]; exact hr4 q (by omega) i hi
              have p3 : ∀ q, q < c + 1 → ∀ i, i < 84 → va_cpy r6 s3 (84 * c) (84 * (4 * 0 + c)) 84 (84 * q + i) = sgn (rtn (fun _ => 0) (fun _ => 0)) (s0 q) i := fun q hq i hi => by
                by_cases e : q = c
                · rw [e, cpy_in (by omega) (by omega), show 84 * c + (84 * c + i - 84 * (4 * 0 + c)) = 84 * c + i by omega]; exact hq1 i hi
                · rw [cpy_out (by omega)]; exact hs3 q (by omega) i hi
              exact ihA (c + 1) _ _ _ _ _ _ _ H locs ls (by omega) (by omega) hS h3 h4 h5 h6 h7 h8 h9 h15 h16 p4 p3 hF hR (lv_sub hl [1, 0] rfl)
            · have c391 : ¬ (84 ≤ k) := fun z => c391 ((nI_leI (a := 84) (b := k) (by omega) (by omega)).mpr z)
              refine lv_aload_n hx hb dX9_init_581 rfl (lv_at hl 0 rfl) ?_
              refine mm_get S hC hR (C := RX9) (T := TX9) (N := 23) (ref := "ForkWatchModel") (v := .ref (md 4)) 3 h0 inRX9 rfl (by decide) (by decide +kernel) (fun _ h9 => h9) rfl dX9_init_582 ?_
              refine lv_bipush (v := nI 84) hx hb dX9_init_585 (by decide) ?_
              refine lv_iload_n hx hb dX9_init_587 rfl (lv_at hl 1 rfl) ?_
              refine lv_imul hx hb dX9_init_588 ?_
              refine mm_eqi (pk_mul _ _) ?_
              refine lv_iload_n hx hb dX9_init_589 rfl (lv_at hl 2 rfl) ?_
              refine lv_iadd hx hb dX9_init_590 ?_
              refine mm_eqi (nI_add _ _) ?_
              refine lv_iload_n hx hb dX9_init_591 rfl (lv_at hl 2 rfl) ?_
              refine lv_if_ne (tgt := 599) hx hb dX9_init_592 (by decide) (fun ck => ?_) (fun ck => ?_)
              · have ck : k ≠ 0 := fun z => ck (congrArg nI z)
                refine lv_iconst (v := nI 0) hx hb dX9_init_599 (by decide) ?_
                refine mm_iast S hC hR h4 (j := (84 * c + k)) (by omega) (by omega) dX9_init_600 (fun H locs M396 g398 f397 hR => ?_)
                have h3 := f397.at h3 (mm_nc (yne hJ (by decide) (by decide) (by decide)) mm_n0)
                have h5 := f397.at h5 (mm_nc (yne hJ (by decide) (by decide) (by decide)) mm_n0)
                have h6 := f397.at h6 (mm_nc (yne hJ (by decide) (by decide) (by decide)) mm_n0)
                have h7 := f397.at h7 (mm_nc (yne hJ (by decide) (by decide) (by decide)) mm_n0)
                have h8 := f397.at h8 (mm_nc (yne hJ (by decide) (by decide) (by decide)) mm_n0)
                have h9 := f397.at h9 (mm_nc (yne hJ (by decide) (by decide) (by decide)) mm_n0)
                have h15 := f397.at h15 (mm_nc (yne hJ (by decide) (by decide) (by decide)) mm_n0)
                have h16 := f397.at h16 (mm_nc (yne hJ (by decide) (by decide) (by decide)) mm_n0)
                have h0 := f397.at h0 (mm_nc (yne hJ (by decide) (by decide) (by decide)) mm_n0)
                have h10 := f397.at h10 (mm_nc (yne hJ (by decide) (by decide) (by decide)) mm_n0)
                have h11 := f397.at h11 (mm_nc (yne hJ (by decide) (by decide) (by decide)) mm_n0)
                have h4 : M396 (md 4) = some (ia G 336 (upd r5 (84 * c + k) (nI 0))) := g398
                have hF := hF.tr f397 (mm_in nn4 mm_i0)
                have hS := hS.out f397 (mm_nc (yne hJ (by decide) (by decide) (by decide)) mm_n0) (mm_nc (yne hJ (by decide) (by decide) (by decide)) mm_n0) (mm_nc (yne hJ (by decide) (by decide) (by decide)) mm_n0) (mm_nc (yne hJ (by decide) (by decide) (by decide)) mm_n0) (mm_nc (yne hJ (by decide) (by decide) (by decide)) mm_n0) (mm_nc (yne hJ (by decide) (by decide) (by decide)) mm_n0) (mm_nc (yne hJ (by decide) (by decide) (by decide)) mm_n0) (mm_nc (yne hJ (by decide) (by decide) (by decide)) mm_n0)
                refine lv_iinc (v := (nI (k + 1))) (lv' := [(2, .int (nI (k + 1))), (0, .ref (md 0)), (1, .int (nI c))]) hx hb dX9_init_601 hl (k := 2) rfl (by rw [show Int32.ofInt 1 = nI 1 from by decide]; exact nI_add _ _) (by decide) rfl (fun ls hl => ?_)
                refine lv_goto (tgt := 575) hx hb dX9_init_604 (by decide) ?_
                have g3 : nI 0 = s0 c k := by unfold s0 upd; rw [if_neg ck]; rfl
                exact ih (k + 1) _ _ H locs ls (by omega) (by omega) hS h3 h4 h5 h6 h7 h8 h9 h15 h16 (fun t ht => by unfold upd; by_cases e : t = k; (rw [if_pos (by omega), g3, e]); (rw [if_neg (by omega)]; exact g1 t (by omega))) (fun t ht => by unfold upd; rw [if_neg (by omega)]; exact g2 t ht) hF hR (lv_sub hl [1, 2, 0] rfl)
              · have ck : k = 0 := (nI_eq (a := k) (b := 0) (by omega) (by omega)).mp ck
                refine lv_iload_n hx hb dX9_init_595 rfl (lv_at hl 1 rfl) ?_
                refine lv_goto (tgt := 600) hx hb dX9_init_596 (by decide) ?_
                refine mm_iast S hC hR h4 (j := (84 * c + k)) (by omega) (by omega) dX9_init_600 (fun H locs M399 g401 f400 hR => ?_)
                have h3 := f400.at h3 (mm_nc (yne hJ (by decide) (by decide) (by decide)) mm_n0)
                have h5 := f400.at h5 (mm_nc (yne hJ (by decide) (by decide) (by decide)) mm_n0)
                have h6 := f400.at h6 (mm_nc (yne hJ (by decide) (by decide) (by decide)) mm_n0)
                have h7 := f400.at h7 (mm_nc (yne hJ (by decide) (by decide) (by decide)) mm_n0)
                have h8 := f400.at h8 (mm_nc (yne hJ (by decide) (by decide) (by decide)) mm_n0)
                have h9 := f400.at h9 (mm_nc (yne hJ (by decide) (by decide) (by decide)) mm_n0)
                have h15 := f400.at h15 (mm_nc (yne hJ (by decide) (by decide) (by decide)) mm_n0)
                have h16 := f400.at h16 (mm_nc (yne hJ (by decide) (by decide) (by decide)) mm_n0)
                have h0 := f400.at h0 (mm_nc (yne hJ (by decide) (by decide) (by decide)) mm_n0)
                have h10 := f400.at h10 (mm_nc (yne hJ (by decide) (by decide) (by decide)) mm_n0)
                have h11 := f400.at h11 (mm_nc (yne hJ (by decide) (by decide) (by decide)) mm_n0)
                have h4 : M399 (md 4) = some (ia G 336 (upd r5 (84 * c + k) (nI c))) := g401
                have hF := hF.tr f400 (mm_in nn4 mm_i0)
                have hS := hS.out f400 (mm_nc (yne hJ (by decide) (by decide) (by decide)) mm_n0) (mm_nc (yne hJ (by decide) (by decide) (by decide)) mm_n0) (mm_nc (yne hJ (by decide) (by decide) (by decide)) mm_n0) (mm_nc (yne hJ (by decide) (by decide) (by decide)) mm_n0) (mm_nc (yne hJ (by decide) (by decide) (by decide)) mm_n0) (mm_nc (yne hJ (by decide) (by decide) (by decide)) mm_n0) (mm_nc (yne hJ (by decide) (by decide) (by decide)) mm_n0) (mm_nc (yne hJ (by decide) (by decide) (by decide)) mm_n0)
                refine lv_iinc (v := (nI (k + 1))) (lv' := [(2, .int (nI (k + 1))), (0, .ref (md 0)), (1, .int (nI c))]) hx hb dX9_init_601 hl (k := 2) rfl (by rw [show Int32.ofInt 1 = nI 1 from by decide]; exact nI_add _ _) (by decide) rfl (fun ls hl => ?_)
                refine lv_goto (tgt := 575) hx hb dX9_init_604 (by decide) ?_
                have g3 : nI c = s0 c k := by unfold s0 upd; rw [if_pos ck]
                exact ih (k + 1) _ _ H locs ls (by omega) (by omega) hS h3 h4 h5 h6 h7 h8 h9 h15 h16 (fun t ht => by unfold upd; by_cases e : t = k; (rw [if_pos (by omega), g3, e]); (rw [if_neg (by omega)]; exact g1 t (by omega))) (fun t ht => by unfold upd; rw [if_neg (by omega)]; exact g2 t ht) hF hR (lv_sub hl [1, 2, 0] rfl)
        exact loopB (84 + 1) 0 _ _ _ _ ls (by omega) (by omega) hS h3 h4 h5 h6 h7 h8 h9 h15 h16 (fun j hj => absurd hj (Nat.not_lt_zero j)) (fun t _ => rfl) hF hR (lv_sub hl [1, 2, 0] rfl)
  exact loopA (4 + 1) 0 _ _ _ _ _ _ _ _ _ ls (by omega) (by omega) hS h3 h4 h5 h6 h7 h8 h9 h15 h16 (fun j hj => absurd hj (Nat.not_lt_zero j)) (fun j hj => absurd hj (Nat.not_lt_zero j)) hF hR (lv_sub hl [1, 0] rfl)
