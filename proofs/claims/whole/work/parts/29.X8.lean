theorem mcJ.out {G : mm_G} {M M' : mm_M} {mc h st w ins : Nat} {L : List Nat} (H : mcJ G M mc h st w ins) (ff : mm_fr L M M') (h0 : mc ∉ L) (h1 : h ∉ L) (h2 : st ∉ L) (h3 : w ∉ L) (h4 : ins ∉ L) : mcJ G M' mc h st w ins := by
  obtain ⟨a, ⟨f, g, x, y, b, c, d⟩, i, e⟩ := H
  exact ⟨ff.at a h0, ⟨f, g, x, y, ff.at b h1, ff.at c h2, ff.at d h3⟩, i, ff.at e h4⟩
theorem mcJ.fr0 {G : mm_G} {M M' : mm_M} {mc h st w ins : Nat} (H : mcJ G M mc h st w ins) (ff : mm_fr [] M M') : mcJ G M' mc h st w ins := H.out ff mm_n0 mm_n0 mm_n0 mm_n0 mm_n0
/-! ===== ForkWatch: small ones ===== -/
theorem not_lt0 {j n : Nat} (h : j < n) (hn : n ≤ 1000) : ¬ nI j < 0 := nI_pos (by omega)

set_option maxHeartbeats 4000000 in
set_option maxRecDepth 100000 in
/-- isClient -/
theorem c_X8_isClient (l : Launch) (G : mm_G) (M : mm_M) (sz : Nat) (x : Int32)   : mm_i l yX8_isClient wsX8_isClient ({ frames := 0, cells := 0, slots := 0, locals := 0 } : Room) G ([.int x] : List Value) M sz (fun r M' => bq r (∃ j, j < 4 ∧ x = nI j) ∧ mm_fr [] M M') := by
  refine mm_enter (cc := cX8_isClient) (maxL := 1) (ret := (some .boolean)) _ (by decide) rfl (Nat.le_of_ble_eq_true rfl) ?_
  intro p0 e0 s m0 be0 me0 c0 ls S hr hlocks hname hA hC hR hl
  have hx := S.1
  have hb := S.2.1
  have hl : lv_has ls 1 [(0, .int x)] := hl
  have hF : mm_fr [] M M := mm_fr.rf
  refine lv_iload_n hx hb dX8_isClient_0 rfl (lv_at hl 0 rfl) ?_
  refine lv_if_lt (tgt := 13) hx hb dX8_isClient_1 (by decide) (fun c1 => ?_) (fun c1 => ?_)
  · skip
    refine lv_iconst (v := nI 0) hx hb dX8_isClient_13 (by decide) ?_
    exact mm_zret S hr hlocks (by decide) hR ⟨Or.inr ⟨rfl, fun ⟨j, hj, e⟩ => by rw [e] at c1; exact not_lt0 hj (by omega) c1⟩, hF⟩ dX8_isClient_14
  · skip
    refine lv_iload_n hx hb dX8_isClient_4 rfl (lv_at hl 0 rfl) ?_
    refine lv_iconst (v := nI 4) hx hb dX8_isClient_5 (by decide) ?_
    refine lv_icmp_ge (tgt := 13) hx hb dX8_isClient_6 (by decide) (fun c2 => ?_) (fun c2 => ?_)
    · skip
      refine lv_iconst (v := nI 0) hx hb dX8_isClient_13 (by decide) ?_
      exact mm_zret S hr hlocks (by decide) hR ⟨Or.inr ⟨rfl, fun ⟨j, hj, e⟩ => by rw [e] at c2; exact absurd c2 (nI_ge hj (by omega))⟩, hF⟩ dX8_isClient_14
    · skip
      refine lv_iconst (v := nI 1) hx hb dX8_isClient_9 (by decide) ?_
      refine lv_goto (tgt := 14) hx hb dX8_isClient_10 (by decide) ?_
      exact mm_zret S hr hlocks (by decide) hR ⟨Or.inl ⟨rfl, ((pk_ix x (n := 4) (by decide)).resolve_left c1).resolve_left c2⟩, hF⟩ dX8_isClient_14

set_option maxHeartbeats 4000000 in
set_option maxRecDepth 100000 in
/-- isFile -/
theorem c_X8_isFile (l : Launch) (G : mm_G) (M : mm_M) (sz : Nat) (x : Int32)   : mm_i l yX8_isFile wsX8_isFile ({ frames := 0, cells := 0, slots := 0, locals := 0 } : Room) G ([.int x] : List Value) M sz (fun r M' => bq r (∃ j, j < 16 ∧ x = nI j) ∧ mm_fr [] M M') := by
  refine mm_enter (cc := cX8_isFile) (maxL := 1) (ret := (some .boolean)) _ (by decide) rfl (Nat.le_of_ble_eq_true rfl) ?_
  intro p0 e0 s m0 be0 me0 c0 ls S hr hlocks hname hA hC hR hl
  have hx := S.1
  have hb := S.2.1
  have hl : lv_has ls 1 [(0, .int x)] := hl
  have hF : mm_fr [] M M := mm_fr.rf
  refine lv_iload_n hx hb dX8_isFile_0 rfl (lv_at hl 0 rfl) ?_
  refine lv_if_lt (tgt := 14) hx hb dX8_isFile_1 (by decide) (fun c1 => ?_) (fun c1 => ?_)
  · skip
    refine lv_iconst (v := nI 0) hx hb dX8_isFile_14 (by decide) ?_
    exact mm_zret S hr hlocks (by decide) hR ⟨Or.inr ⟨rfl, fun ⟨j, hj, e⟩ => by rw [e] at c1; exact not_lt0 hj (by omega) c1⟩, hF⟩ dX8_isFile_15
  · skip
    refine lv_iload_n hx hb dX8_isFile_4 rfl (lv_at hl 0 rfl) ?_
    refine lv_bipush (v := nI 16) hx hb dX8_isFile_5 (by decide) ?_
    refine lv_icmp_ge (tgt := 14) hx hb dX8_isFile_7 (by decide) (fun c2 => ?_) (fun c2 => ?_)
    · skip
      refine lv_iconst (v := nI 0) hx hb dX8_isFile_14 (by decide) ?_
      exact mm_zret S hr hlocks (by decide) hR ⟨Or.inr ⟨rfl, fun ⟨j, hj, e⟩ => by rw [e] at c2; exact absurd c2 (nI_ge hj (by omega))⟩, hF⟩ dX8_isFile_15
    · skip
      refine lv_iconst (v := nI 1) hx hb dX8_isFile_10 (by decide) ?_
      refine lv_goto (tgt := 15) hx hb dX8_isFile_11 (by decide) ?_
      exact mm_zret S hr hlocks (by decide) hR ⟨Or.inl ⟨rfl, ((pk_ix x (n := 16) (by decide)).resolve_left c1).resolve_left c2⟩, hF⟩ dX8_isFile_15

set_option maxHeartbeats 4000000 in
set_option maxRecDepth 100000 in
/-- isStatementByte -/
theorem c_X8_isStatementByte (l : Launch) (G : mm_G) (M : mm_M) (sz : Nat) (x : Int32)   : mm_i l yX8_isStatementByte wsX8_isStatementByte ({ frames := 0, cells := 0, slots := 0, locals := 0 } : Room) G ([.int x] : List Value) M sz (fun r M' => bq r (∃ j, j < 84 ∧ x = nI j) ∧ mm_fr [] M M') := by
  refine mm_enter (cc := cX8_isStatementByte) (maxL := 1) (ret := (some .boolean)) _ (by decide) rfl (Nat.le_of_ble_eq_true rfl) ?_
  intro p0 e0 s m0 be0 me0 c0 ls S hr hlocks hname hA hC hR hl
  have hx := S.1
  have hb := S.2.1
  have hl : lv_has ls 1 [(0, .int x)] := hl
  have hF : mm_fr [] M M := mm_fr.rf
  refine lv_iload_n hx hb dX8_isStatementByte_0 rfl (lv_at hl 0 rfl) ?_
  refine lv_if_lt (tgt := 14) hx hb dX8_isStatementByte_1 (by decide) (fun c1 => ?_) (fun c1 => ?_)
  · skip
    refine lv_iconst (v := nI 0) hx hb dX8_isStatementByte_14 (by decide) ?_
    exact mm_zret S hr hlocks (by decide) hR ⟨Or.inr ⟨rfl, fun ⟨j, hj, e⟩ => by rw [e] at c1; exact not_lt0 hj (by omega) c1⟩, hF⟩ dX8_isStatementByte_15
  · skip
    refine lv_iload_n hx hb dX8_isStatementByte_4 rfl (lv_at hl 0 rfl) ?_
    refine lv_bipush (v := nI 84) hx hb dX8_isStatementByte_5 (by decide) ?_
    refine lv_icmp_ge (tgt := 14) hx hb dX8_isStatementByte_7 (by decide) (fun c2 => ?_) (fun c2 => ?_)
    · skip
      refine lv_iconst (v := nI 0) hx hb dX8_isStatementByte_14 (by decide) ?_
      exact mm_zret S hr hlocks (by decide) hR ⟨Or.inr ⟨rfl, fun ⟨j, hj, e⟩ => by rw [e] at c2; exact absurd c2 (nI_ge hj (by omega))⟩, hF⟩ dX8_isStatementByte_15
    · skip
      refine lv_iconst (v := nI 1) hx hb dX8_isStatementByte_10 (by decide) ?_
      refine lv_goto (tgt := 15) hx hb dX8_isStatementByte_11 (by decide) ?_
      exact mm_zret S hr hlocks (by decide) hR ⟨Or.inl ⟨rfl, ((pk_ix x (n := 84) (by decide)).resolve_left c1).resolve_left c2⟩, hF⟩ dX8_isStatementByte_15

set_option maxHeartbeats 4000000 in
set_option maxRecDepth 100000 in
/-- isMask -/
theorem c_X8_isMask (l : Launch) (G : mm_G) (M : mm_M) (sz : Nat) (x : Int32)   : mm_i l yX8_isMask wsX8_isMask ({ frames := 0, cells := 0, slots := 0, locals := 0 } : Room) G ([.int x] : List Value) M sz (fun r M' => bq r (∃ j, 1 ≤ j ∧ j < 256 ∧ x = nI j) ∧ mm_fr [] M M') := by
  refine mm_enter (cc := cX8_isMask) (maxL := 1) (ret := (some .boolean)) _ (by decide) rfl (Nat.le_of_ble_eq_true rfl) ?_
  intro p0 e0 s m0 be0 me0 c0 ls S hr hlocks hname hA hC hR hl
  have hx := S.1
  have hb := S.2.1
  have hl : lv_has ls 1 [(0, .int x)] := hl
  have hF : mm_fr [] M M := mm_fr.rf
  refine lv_iload_n hx hb dX8_isMask_0 rfl (lv_at hl 0 rfl) ?_
  refine lv_iconst (v := nI 1) hx hb dX8_isMask_1 (by decide) ?_
  refine lv_icmp_lt (tgt := 16) hx hb dX8_isMask_2 (by decide) (fun c1 => ?_) (fun c1 => ?_)
  · skip
    refine lv_iconst (v := nI 0) hx hb dX8_isMask_16 (by decide) ?_
    exact mm_zret S hr hlocks (by decide) hR ⟨Or.inr ⟨rfl, fun ⟨j, h1, h2, e⟩ => by rw [e] at c1; exact absurd c1 (nI_nlt h1 (by omega))⟩, hF⟩ dX8_isMask_17
  · skip
    refine lv_iload_n hx hb dX8_isMask_5 rfl (lv_at hl 0 rfl) ?_
    refine lv_sipush (v := nI 255) hx hb dX8_isMask_6 (by decide) ?_
    refine lv_icmp_gt (tgt := 16) hx hb dX8_isMask_9 (by decide) (fun c2 => ?_) (fun c2 => ?_)
    · skip
      refine lv_iconst (v := nI 0) hx hb dX8_isMask_16 (by decide) ?_
      exact mm_zret S hr hlocks (by decide) hR ⟨Or.inr ⟨rfl, fun ⟨j, h1, h2, e⟩ => by rw [e] at c2; exact absurd c2 (nI_nlt (show j ≤ 255 by omega) (by omega))⟩, hF⟩ dX8_isMask_17
    · skip
      have hx1 : ¬ x < 0 := fun z => c1 (Int32.lt_trans z (by decide))
      have hx2 : ¬ nI 256 ≤ x := fun z => c2 (Int32.lt_of_lt_of_le (show nI 255 < nI 256 by decide) z)
      obtain ⟨j, hj, ej⟩ := ((pk_ix x (n := 256) (by decide)).resolve_left hx1).resolve_left hx2
      have hj1 : 1 ≤ j := Classical.byContradiction (fun z => c1 (by rw [ej]; exact nI_lt (by omega) (by decide)))
      refine lv_iconst (v := nI 1) hx hb dX8_isMask_12 (by decide) ?_
      refine lv_goto (tgt := 17) hx hb dX8_isMask_13 (by decide) ?_
      exact mm_zret S hr hlocks (by decide) hR ⟨Or.inl ⟨rfl, j, hj1, hj, ej⟩, hF⟩ dX8_isMask_17

set_option maxHeartbeats 4000000 in
set_option maxRecDepth 100000 in
/-- stoppedBy(check) -/
theorem c_X8_stoppedBy (l : Launch) (G : mm_G) (M : mm_M) (sz : Nat) (X x1 x4 x9 x10 x12 x13 x14 x15 x16 : Nat) (cl ll : Nat) (chg wl sp : Int32) (ck : Nat) (hX : M X = some (ob 9 [.ref x1, .ref x4, .ref x9, .ref x10, .ref x12, .ref x13, .ref x14, .int (nI cl), .ref x15, .int (nI ll), .ref x16, .int chg, .int wl, .int sp]))  : mm_i l yX8_stoppedBy wsX8_stoppedBy ({ frames := 0, cells := 0, slots := 0, locals := 0 } : Room) G ([.ref X, .int (nI ck)] : List Value) M sz (fun r M' => r = -1 - nI ck ∧ M' X = some (ob 9 [.ref x1, .ref x4, .ref x9, .ref x10, .ref x12, .ref x13, .ref x14, .int (nI cl), .ref x15, .int (nI ll), .ref x16, .int chg, .int wl, .int (sp + nI 1)]) ∧ mm_fr [X] M M') := by
  refine mm_enter (cc := cX8_stoppedBy) (maxL := 2) (ret := (some .int)) _ (by decide) rfl (Nat.le_of_ble_eq_true rfl) ?_
  intro p0 e0 s m0 be0 me0 c0 ls S hr hlocks hname hA hC hR hl
  have hx := S.1
  have hb := S.2.1
  have hl : lv_has ls 2 [(0, .ref X), (1, .int (nI ck))] := hl
  have inRX8 : ∀ w ∈ wsX80, w ∈ wsX8_stoppedBy := by decide +kernel
  have hF : mm_fr [X] M M := mm_fr.rf
  refine lv_aload_n hx hb dX8_stoppedBy_0 rfl (lv_at hl 0 rfl) ?_
  refine lv_dup hx hb dX8_stoppedBy_1 rfl ?_
  refine mm_get S hC hR (C := RX8) (T := TX8) (N := 14) (ref := "ForkWatch") (v := .int sp) 13 hX inRX8 rfl (by decide) (by decide +kernel) (fun _ h9 => h9) rfl dX8_stoppedBy_2 ?_
  refine lv_iconst (v := nI 1) hx hb dX8_stoppedBy_5 (by decide) ?_
  refine lv_iadd hx hb dX8_stoppedBy_6 ?_
  refine mm_put S hC hR (C := RX8) (T := TX8) (N := 14) (ref := "ForkWatch") 13 hX inRX8 rfl tyX8_ok nmX8 (by decide) (by decide +kernel) (fun _ h9 => h9) rfl rfl rfl (Nat.le_of_ble_eq_true rfl) dX8_stoppedBy_7 (fun H locs M1 g3 f2 hR => ?_)
  have hX : M1 X = some (ob 9 [.ref x1, .ref x4, .ref x9, .ref x10, .ref x12, .ref x13, .ref x14, .int (nI cl), .ref x15, .int (nI ll), .ref x16, .int chg, .int wl, .int (sp + (nI 1))]) := g3
  have hF := hF.tr f2 (mm_ic 0 rfl mm_i0)
  refine lv_iconst (v := -1) hx hb dX8_stoppedBy_10 (by decide) ?_
  refine lv_iload_n hx hb dX8_stoppedBy_11 rfl (lv_at hl 1 rfl) ?_
  refine lv_isub hx hb dX8_stoppedBy_12 ?_
  exact mm_iret S hr hlocks hR ⟨rfl, hX, hF⟩ dX8_stoppedBy_13

/-- a statement with a root, signed -/
def sgn (tn f : Nat → Int32) : Nat → Int32 := va_cpy (macb 52 (va_cpy tn f 32 20 32)) (va_cpy tn f 32 20 32) 0 52 32
def sgd (f : Nat → Int32) (c : Nat) : Prop := f 0 = nI c ∧ ∀ i, i < 32 → f (52 + i) = macb 52 f i

set_option maxHeartbeats 4000000 in
set_option maxRecDepth 100000 in
/-- sign(statement, tree) -/
theorem c_X8_sign (l : Launch) (G : mm_G) (M : mm_M) (sz : Nat) (X x1 x4 x9 x10 x12 x13 x14 x15 x16 : Nat) (cl ll : Nat) (chg wl sp : Int32) (mh ms mq ins : Nat) (hh bb T nd : Nat) (f tn : Nat → Int32) (hX : M X = some (ob 9 [.ref x1, .ref x4, .ref x9, .ref x10, .ref x12, .ref x13, .ref x14, .int (nI cl), .ref x15, .int (nI ll), .ref x16, .int chg, .int wl, .int sp])) (h1 : M hh = some (ob 6 [.ref bb])) (h2 : M bb = some (ia G 84 f)) (h5 : M T = some (ob 7 [.ref nd])) (h6 : M nd = some (ia G 1024 tn)) (hmc : mcJ G M x4 mh ms mq ins) : mm_v l yX8_sign wsX8_sign ({ frames := 4, cells := 0, slots := 0, locals := 140 } : Room) G ([.ref X, .ref hh, .ref T] : List Value) M sz (fun M' => M' bb = some (ia G 84 (sgn tn f)) ∧ mcJ G M' x4 mh ms mq ins ∧ mm_fr [mh, ms, mq, ins, bb] M M') := by
  refine mm_enter (cc := cX8_sign) (maxL := 3) (ret := none) _ (by decide) rfl (Nat.le_of_ble_eq_true rfl) ?_
  intro p0 e0 s m0 be0 me0 c0 ls S hr hlocks hname hA hC hR hl
  have hx := S.1
  have hb := S.2.1
  have hl : lv_has ls 3 [(0, .ref X), (1, .ref hh), (2, .ref T)] := hl
  have inRX2 : ∀ w ∈ wsX20, w ∈ wsX8_sign := by decide +kernel
  have inRX4 : ∀ w ∈ wsX40, w ∈ wsX8_sign := by decide +kernel
  have inRX5 : ∀ w ∈ wsX50, w ∈ wsX8_sign := by decide +kernel
  have inRX6 : ∀ w ∈ wsX60, w ∈ wsX8_sign := by decide +kernel
  have inRX8 : ∀ w ∈ wsX80, w ∈ wsX8_sign := by decide +kernel
  have hF : mm_fr [mh, ms, mq, ins, bb] M M := mm_fr.rf
  refine lv_aload_n hx hb dX8_sign_0 rfl (lv_at hl 2 rfl) ?_
  refine lv_aload_n hx hb dX8_sign_1 rfl (lv_at hl 1 rfl) ?_
  refine mm_get S hC hR (C := RX5) (T := TX5) (N := 1) (ref := "ForkWatch$Statement") (v := .ref bb) 0 h1 inRX5 rfl (by decide) (by decide +kernel) (fun _ h9 => h9) rfl dX8_sign_2 ?_
  refine lv_bipush (v := nI 20) hx hb dX8_sign_5 (by decide) ?_
  have d_nd_bb : dif nd bb := mm_nelen h6 h2 (by decide)
  obtain ⟨km0, ⟨mf, mg, ma, mb, km1, km2, km3⟩, mi, km4⟩ := id hmc
  refine mm_callv hA hR (va_runV (As := [.ref bb, .int (nI 20)]) (rest := []) S (c_X6_copyRoot l G M _ T nd bb 84 20 tn f h5 h6 h2 (by omega) (by decide) d_nd_bb) (cwV 2 S.2.2.2.2 gX8_sign_X6_copyRoot rfl rfl rfl (by decide +kernel) ⟨Nat.le_of_ble_eq_true rfl, Nat.le_of_ble_eq_true rfl⟩) (mm_preV hC hA hR _ h5 rfl) rfl rfl hl.1 rfl (lv_room (Nat.le_of_ble_eq_true rfl)) dX8_sign_7 ⟨Nat.le_of_ble_eq_true rfl, Nat.le_of_ble_eq_true rfl⟩) (fun M5 H locs hp hR => ?_)
  obtain ⟨e1, ff⟩ := hp
  have hX := ff.at hX (mm_nc (mm_neoi hX h2) mm_n0)
  have h1 := ff.at h1 (mm_nc (mm_neoi h1 h2) mm_n0)
  have h5 := ff.at h5 (mm_nc (mm_neoi h5 h2) mm_n0)
  have h6 := ff.at h6 (mm_nc d_nd_bb mm_n0)
  have km0 := ff.at km0 (mm_nc (mm_neoi km0 h2) mm_n0)
  have km1 := ff.at km1 (mm_nc (mm_neoi km1 h2) mm_n0)
  have km2 := ff.at km2 (mm_nc (mm_nelen km2 h2 (by decide)) mm_n0)
  have km3 := ff.at km3 (mm_nc (mm_nelen km3 h2 (by decide)) mm_n0)
  have km4 := ff.at km4 (mm_nc (mm_nelen km4 h2 (by decide)) mm_n0)
  have h2 : M5 bb = some (ia G 84 (va_cpy tn f 32 20 32)) := e1
  have hF := hF.tr ff (mm_ic 4 rfl mm_i0)
  refine lv_aload_n hx hb dX8_sign_10 rfl (lv_at hl 0 rfl) ?_
  refine mm_get S hC hR (C := RX8) (T := TX8) (N := 14) (ref := "ForkWatch") (v := .ref x4) 1 hX inRX8 rfl (by decide) (by decide +kernel) (fun _ h9 => h9) rfl dX8_sign_11 ?_
  refine lv_aload_n hx hb dX8_sign_14 rfl (lv_at hl 1 rfl) ?_
  refine mm_get S hC hR (C := RX5) (T := TX5) (N := 1) (ref := "ForkWatch$Statement") (v := .ref bb) 0 h1 inRX5 rfl (by decide) (by decide +kernel) (fun _ h9 => h9) rfl dX8_sign_15 ?_
  refine lv_bipush (v := nI 52) hx hb dX8_sign_18 (by decide) ?_
  refine lv_aload_n hx hb dX8_sign_20 rfl (lv_at hl 1 rfl) ?_
  refine mm_get S hC hR (C := RX5) (T := TX5) (N := 1) (ref := "ForkWatch$Statement") (v := .ref bb) 0 h1 inRX5 rfl (by decide) (by decide +kernel) (fun _ h9 => h9) rfl dX8_sign_21 ?_
  refine lv_bipush (v := nI 52) hx hb dX8_sign_24 (by decide) ?_
  refine mm_callv hA hR (va_runV (As := [.ref bb, .int (nI 52), .ref bb, .int (nI 52)]) (rest := []) S (c_X2_make l G M5 _ x4 mh ms mq ins bb bb 84 84 52 52 ma mb mf mg mi (va_cpy tn f 32 20 32) (va_cpy tn f 32 20 32) km0 km1 km2 km3 km4 h2 h2 (by omega) (by omega) (by omega) (by omega) (mm_nelen h2 km2 (by decide)) (mm_nelen h2 km3 (by decide)) (mm_nelen h2 km4 (by decide)) (mm_nelen h2 km2 (by decide)) (mm_nelen h2 km3 (by decide)) (mm_nelen h2 km4 (by decide))) (cwV 4 S.2.2.2.2 gX8_sign_X2_make rfl rfl rfl (by decide +kernel) ⟨Nat.le_of_ble_eq_true rfl, Nat.le_of_ble_eq_true rfl⟩) (mm_preV hC hA hR _ km0 rfl) rfl rfl hl.1 rfl (lv_room (Nat.le_of_ble_eq_true rfl)) dX8_sign_26 ⟨Nat.le_of_ble_eq_true rfl, Nat.le_of_ble_eq_true rfl⟩) (fun M7 H locs hp hR => ?_)
  obtain ⟨e1, ej, ff⟩ := hp
  have hF := hF.tr ff (mm_ic 0 rfl (mm_ic 1 rfl (mm_ic 2 rfl (mm_ic 3 rfl (mm_ic 4 rfl mm_i0)))))
  exact mm_vret S hr hlocks hR ⟨e1, ej, hF⟩ dX8_sign_29

set_option maxHeartbeats 4000000 in
set_option maxRecDepth 100000 in
/-- areSigned(world) -/
theorem c_X8_areSigned (l : Launch) (G : mm_G) (M : mm_M) (sz : Nat) (X x1 x4 x9 x10 x12 x13 x14 x15 x16 : Nat) (cl ll : Nat) (chg wl sp : Int32) (mh ms mq ins : Nat) (wd : Nat → Nat) (st : Nat → Nat → Int32) (fc fl tn : Nat → Int32) (dg : Nat → Int32) (hX : M X = some (ob 9 [.ref x1, .ref x4, .ref x9, .ref x10, .ref x12, .ref x13, .ref x14, .int (nI cl), .ref x15, .int (nI ll), .ref x16, .int chg, .int wl, .int sp])) (h9 : M x9 = some (ia G 32 dg)) (hmc : mcJ G M x4 mh ms mq ins) (hwo : woA G M wd st fc fl tn) (hd9 : dif x9 ins) (hsep : ∀ i, i < 15 → wd i ∉ [mh, ms, mq, ins, x9]) : mm_i l yX8_areSigned wsX8_areSigned ({ frames := 4, cells := 0, slots := 0, locals := 140 } : Room) G ([.ref X, .ref (wd 0)] : List Value) M sz (fun r M' => bq r (∀ c, c < 4 → sgd (st c) c) ∧ mcJ G M' x4 mh ms mq ins ∧ (∃ dg', M' x9 = some (ia G 32 dg')) ∧ mm_fr [mh, ms, mq, ins, x9] M M') := by
  refine mm_enter (cc := cX8_areSigned) (maxL := 4) (ret := (some .boolean)) _ (by decide) rfl (Nat.le_of_ble_eq_true rfl) ?_
  intro p0 e0 s m0 be0 me0 c0 ls S hr hlocks hname hA hC hR hl
  have hx := S.1
  have hb := S.2.1
  have hl : lv_has ls 4 [(0, .ref X), (1, .ref (wd 0))] := hl
  have inRX2 : ∀ w ∈ wsX20, w ∈ wsX8_areSigned := by decide +kernel
  have inRX4 : ∀ w ∈ wsX40, w ∈ wsX8_areSigned := by decide +kernel
  have inRX5 : ∀ w ∈ wsX50, w ∈ wsX8_areSigned := by decide +kernel
  have inRX7 : ∀ w ∈ wsX70, w ∈ wsX8_areSigned := by decide +kernel
  have inRX8 : ∀ w ∈ wsX80, w ∈ wsX8_areSigned := by decide +kernel
  have hF : mm_fr [mh, ms, mq, ins, x9] M M := mm_fr.rf
  refine lv_iconst (v := nI 0) hx hb dX8_areSigned_0 (by decide) ?_
  refine lv_istore_n (lv' := [(2, .int (nI 0)), (0, .ref X), (1, .ref (wd 0))]) hx hb dX8_areSigned_1 rfl hl (by decide) rfl (fun ls hl => ?_)
  have loop : ∀ (n x : Nat) (dg : Nat → Int32) (M1 : mm_M) (H : Heap) (locs : List Loc) (ls : Array Slot), 4 < x + n → x ≤ 4 → (∀ c, c < x → sgd (st c) c) → M1 X = some (ob 9 [.ref x1, .ref x4, .ref x9, .ref x10, .ref x12, .ref x13, .ref x14, .int (nI cl), .ref x15, .int (nI ll), .ref x16, .int chg, .int wl, .int sp]) → M1 x9 = some (ia G 32 dg) → mcJ G M1 x4 mh ms mq ins → woA G M1 wd st fc fl tn → mm_fr [mh, ms, mq, ins, x9] M M1 → mm_R G s (mm_A M sz) M1 H locs → lv_has ls 4 [(0, .ref X), (1, .ref (wd 0)), (2, .int (nI x))] → W p0 l e0 ({ frames := 4, cells := 0, slots := 0, locals := 140 } : Room) s m0 ([.ref X, .ref (wd 0)] : List Value).toArray be0 me0 c0 H locs 0 0 (MQ be0 (va_Qi (fun r M' => bq r (∀ c, c < 4 → sgd (st c) c) ∧ mcJ G M' x4 mh ms mq ins ∧ (∃ dg', M' x9 = some (ia G 32 dg')) ∧ mm_fr [mh, ms, mq, ins, x9] M M') (fun M' t => mm_H G (mm_A M sz) M' t.heap) (mm_A M sz)) ([.ref X, .ref (wd 0)] : List Value).toArray s 0 0 (mm_A M sz)) (F0 m0 2 ls []) := by
    intro n
    induction n with
    | zero =>
      intro x dg M1 H locs ls hn hx4 hq hX h9 hmc hwo hF hR hl
      omega
    | succ n ih =>
      intro x dg M1 H locs ls hn hx4 hq hX h9 hmc hwo hF hR hl
      refine lv_iload_n hx hb dX8_areSigned_2 rfl (lv_at hl 2 rfl) ?_
      refine lv_iconst (v := nI 4) hx hb dX8_areSigned_3 (by decide) ?_
      refine lv_icmp_ge (tgt := 63) hx hb dX8_areSigned_4 (by decide) (fun c8 => ?_) (fun c8 => ?_)
      · have c8 : 4 ≤ x := (nI_leI (a := 4) (b := x) (by omega) (by omega)).mp c8
        refine lv_iconst (v := nI 1) hx hb dX8_areSigned_63 (by decide) ?_
        exact mm_zret S hr hlocks (by decide) hR ⟨Or.inl ⟨rfl, fun c hc => hq c (by omega)⟩, hmc, ⟨_, h9⟩, hF⟩ dX8_areSigned_64
      · have c8 : ¬ (4 ≤ x) := fun z => c8 ((nI_leI (a := 4) (b := x) (by omega) (by omega)).mpr z)
        obtain ⟨hw0, ⟨tf, hw1, htf⟩, hst, hw2, hw3, hw4, hw5, hw6⟩ := id hwo
        obtain ⟨k9a, k9b⟩ := hst x (by omega)
        obtain ⟨km0, ⟨mf, mg, ma, mb, km1, km2, km3⟩, mi, km4⟩ := id hmc
        refine lv_aload_n hx hb dX8_areSigned_7 rfl (lv_at hl 1 rfl) ?_
        refine mm_get S hC hR (C := RX7) (T := TX7) (N := 3) (ref := "ForkWatch$World") (v := .ref (wd 1)) 0 hw0 inRX7 rfl (by decide) (by decide +kernel) (fun _ h9 => h9) rfl dX8_areSigned_8 ?_
        refine lv_iload_n hx hb dX8_areSigned_11 rfl (lv_at hl 2 rfl) ?_
        refine mm_sald S hC hR hw1 (j := x) (v := .ref (wd (7 + 2 * x))) (by omega) (by omega) (by rw [htf _ (by omega)]; rfl) dX8_areSigned_12 ?_
        refine mm_get S hC hR (C := RX5) (T := TX5) (N := 1) (ref := "ForkWatch$Statement") (v := .ref (wd (8 + 2 * x))) 0 k9a inRX5 rfl (by decide) (by decide +kernel) (fun _ h9 => h9) rfl dX8_areSigned_13 ?_
        refine lv_astore_n (lv' := [(3, .ref (wd (8 + 2 * x))), (0, .ref X), (1, .ref (wd 0)), (2, .int (nI x))]) hx hb dX8_areSigned_16 rfl hl (by decide) rfl (fun ls hl => ?_)
        refine lv_aload_n hx hb dX8_areSigned_17 rfl (lv_at hl 1 rfl) ?_
        refine mm_get S hC hR (C := RX8) (T := TX8) (N := 14) (ref := "ForkWatch") (v := .ref x4) 1 hX inRX8 rfl (by decide) (by decide +kernel) (fun _ h9 => h9) rfl dX8_areSigned_18 ?_
        refine lv_aload_n hx hb dX8_areSigned_21 rfl (lv_at hl 0 rfl) ?_
        refine lv_bipush (v := nI 52) hx hb dX8_areSigned_22 (by decide) ?_
        refine lv_aload_n hx hb dX8_areSigned_24 rfl (lv_at hl 1 rfl) ?_
        refine mm_get S hC hR (C := RX8) (T := TX8) (N := 14) (ref := "ForkWatch") (v := .ref x9) 2 hX inRX8 rfl (by decide) (by decide +kernel) (fun _ h9 => h9) rfl dX8_areSigned_25 ?_
        refine lv_iconst (v := nI 0) hx hb dX8_areSigned_28 (by decide) ?_
        refine mm_callv hA hR (va_runV (As := [.ref (wd (8 + 2 * x)), .int (nI 52), .ref x9, .int (nI 0)]) (rest := []) S (c_X2_make l G M1 _ x4 mh ms mq ins (wd (8 + 2 * x)) x9 84 32 52 0 ma mb mf mg mi (st x) dg km0 km1 km2 km3 km4 k9b h9 (by omega) (by omega) (by omega) (by omega) (mm_nelen k9b km2 (by decide)) (mm_nelen k9b km3 (by decide)) (mm_nelen k9b km4 (by decide)) (mm_nelen h9 km2 (by decide)) (mm_nelen h9 km3 (by decide)) hd9) (cwV 4 S.2.2.2.2 gX8_areSigned_X2_make rfl rfl rfl (by decide +kernel) ⟨Nat.le_of_ble_eq_true rfl, Nat.le_of_ble_eq_true rfl⟩) (mm_preV hC hA hR _ km0 rfl) rfl rfl hl.1 rfl (lv_room (Nat.le_of_ble_eq_true rfl)) dX8_areSigned_29 ⟨Nat.le_of_ble_eq_true rfl, Nat.le_of_ble_eq_true rfl⟩) (fun M11 H locs hp hR => ?_)
        obtain ⟨e1, ej, ff⟩ := hp
        have hwo := hwo.out ff (fun i hi => hsep i hi)
        have nX : X ∉ [mh, ms, mq, ins, x9] := mm_nc (mm_neoo hX km1 (by decide)) (mm_nc (mm_neoi hX km2) (mm_nc (mm_neoi hX km3) (mm_nc (mm_neoi hX km4) (mm_nc (mm_neoi hX h9) mm_n0))))
        have hX := ff.at hX nX
        have hmc := ej
        have hF := hF.tr ff (mm_ic 0 rfl (mm_ic 1 rfl (mm_ic 2 rfl (mm_ic 3 rfl (mm_ic 4 rfl mm_i0)))))
        have h9 := e1
        obtain ⟨hw0, ⟨tf, hw1, htf⟩, hst, hw2, hw3, hw4, hw5, hw6⟩ := id hwo
        obtain ⟨k12a, k12b⟩ := hst x (by omega)
        refine lv_aload_n hx hb dX8_areSigned_32 rfl (lv_at hl 0 rfl) ?_
        refine lv_iconst (v := nI 0) hx hb dX8_areSigned_33 (by decide) ?_
        refine mm_iald S hC hR k12b (j := 0) (by omega) (by omega) dX8_areSigned_34 ?_
        refine lv_iload_n hx hb dX8_areSigned_35 rfl (lv_at hl 3 rfl) ?_
        refine lv_icmp_ne (tgt := 55) hx hb dX8_areSigned_36 (by decide) (fun c2 => ?_) (fun c2 => ?_)
        · skip
          refine lv_iconst (v := nI 0) hx hb dX8_areSigned_55 (by decide) ?_
          exact mm_zret S hr hlocks (by decide) hR ⟨Or.inr ⟨rfl, fun z => c2 (z x (by omega)).1⟩, hmc, ⟨_, h9⟩, hF⟩ dX8_areSigned_56
        · skip
          refine lv_aload_n hx hb dX8_areSigned_39 rfl (lv_at hl 0 rfl) ?_
          refine lv_bipush (v := nI 52) hx hb dX8_areSigned_40 (by decide) ?_
          refine lv_aload_n hx hb dX8_areSigned_42 rfl (lv_at hl 1 rfl) ?_
          refine mm_get S hC hR (C := RX8) (T := TX8) (N := 14) (ref := "ForkWatch") (v := .ref x9) 2 hX inRX8 rfl (by decide) (by decide +kernel) (fun _ h9 => h9) rfl dX8_areSigned_43 ?_
          refine lv_iconst (v := nI 0) hx hb dX8_areSigned_46 (by decide) ?_
          refine lv_bipush (v := nI 32) hx hb dX8_areSigned_47 (by decide) ?_
          refine mm_calli hA hR (va_runS (As := [.ref (wd (8 + 2 * x)), .int (nI 52), .ref x9, .int (nI 0), .int (nI 32)]) (rest := []) S (c_X8_sameRow l G M11 _ (wd (8 + 2 * x)) x9 84 32 52 0 32 (st x) (va_cpy (macb 52 (st x)) dg 0 0 32) k12b h9 (by omega) (by omega) (by decide) (by decide)) (va_cwS 5 S.2.2.2.2 gX8_areSigned_X8_sameRow rfl rfl rfl (by decide +kernel) ⟨Nat.le_of_ble_eq_true rfl, Nat.le_of_ble_eq_true rfl⟩) (mm_preS hC hA hR _) rfl rfl hl.1 rfl (lv_room (Nat.le_of_ble_eq_true rfl)) dX8_areSigned_49 ⟨Nat.le_of_ble_eq_true rfl, Nat.le_of_ble_eq_true rfl⟩) (fun r13 M14 H locs hp hR => ?_)
          obtain ⟨q1, ff⟩ := hp
          have hwo := hwo.fr0 ff
          have hmc := hmc.fr0 ff
          have hX := ff.at hX mm_n0
          have h9 := ff.at h9 mm_n0
          have hF := hF.tr ff mm_i0
          rcases q1 with ⟨e1, q1⟩ | ⟨e1, q1⟩ <;> subst e1
          · skip
            refine lv_if_ne (tgt := 57) hx hb dX8_areSigned_52 (by decide) (fun _ => ?_) (fun z => by first | exact absurd z (by decide) | exact absurd (by decide) z)
            refine lv_iinc (v := (nI (x + 1))) (lv' := [(2, .int (nI (x + 1))), (3, .ref (wd (8 + 2 * x))), (0, .ref X), (1, .ref (wd 0))]) hx hb dX8_areSigned_57 hl (k := 3) rfl (by rw [show Int32.ofInt 1 = nI 1 from by decide]; exact nI_add _ _) (by decide) rfl (fun ls hl => ?_)
            refine lv_goto (tgt := 2) hx hb dX8_areSigned_60 (by decide) ?_
            exact ih (x + 1) _ _ H locs ls (by omega) (by omega) (lt_s hq ⟨c2, fun i hi => by have z := q1 i hi; rw [show (0 : Nat) + i = 0 + i from rfl, cpy_at hi] at z; exact z⟩) hX h9 hmc hwo hF hR (lv_sub hl [2, 3, 0] rfl)
          · skip
            refine lv_if_ne (tgt := 57) hx hb dX8_areSigned_52 (by decide) (fun z => by first | exact absurd z (by decide) | exact absurd (by decide) z) (fun _ => ?_)
            refine lv_iconst (v := nI 0) hx hb dX8_areSigned_55 (by decide) ?_
            exact mm_zret S hr hlocks (by decide) hR ⟨Or.inr ⟨rfl, fun z => q1 (fun i hi => by rw [cpy_at hi]; exact (z x (by omega)).2 i hi)⟩, hmc, ⟨_, h9⟩, hF⟩ dX8_areSigned_56
  exact loop 5 0 dg _ _ _ ls (by omega) (by omega) (fun c hc => by omega) hX h9 hmc hwo hF hR (lv_sub hl [1, 2, 0] rfl)
