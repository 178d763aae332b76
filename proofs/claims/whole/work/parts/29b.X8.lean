/-- which check fails -/
def fckR (st : Nat → Nat → Int32) (rc tn : Nat → Int32) (c k : Nat) : Prop :=
  (k = 1 ∧ ¬ ∀ c, c < 4 → sgd (st c) c) ∨ (k = 2 ∧ (∀ c, c < 4 → sgd (st c) c) ∧ ¬ ∀ i, i < 84 → st c i = rc i) ∨ (k = 3 ∧ (∀ c, c < 4 → sgd (st c) c) ∧ (∀ i, i < 84 → st c i = rc i) ∧ ¬ inl st) ∨
  (k = 0 ∧ (∀ c, c < 4 → sgd (st c) c) ∧ (∀ i, i < 84 → st c i = rc i) ∧ inl st ∧ ∀ j, j < 32 → tn (32 + j) = st (gr st) (20 + j)) ∨ (k = 4 ∧ (∀ c, c < 4 → sgd (st c) c) ∧ (∀ i, i < 84 → st c i = rc i) ∧ inl st ∧ ¬ ∀ j, j < 32 → tn (32 + j) = st (gr st) (20 + j))

set_option maxHeartbeats 4000000 in
set_option maxRecDepth 100000 in
/-- failedCheck(client, world) -/
theorem c_X8_failedCheck (l : Launch) (G : mm_G) (M : mm_M) (sz : Nat) (X x1 x4 x9 x10 x12 x13 x14 x15 x16 : Nat) (cl ll : Nat) (chg wl sp : Int32) (mh ms mq ins : Nat) (wd : Nat → Nat) (st : Nat → Nat → Int32) (fc fl tn : Nat → Int32) (dg : Nat → Int32) (rh rb cc : Nat) (rf : Nat → Option Nat) (rc : Nat → Int32) (hX : M X = some (ob 9 [.ref x1, .ref x4, .ref x9, .ref x10, .ref x12, .ref x13, .ref x14, .int (nI cl), .ref x15, .int (nI ll), .ref x16, .int chg, .int wl, .int sp])) (h9 : M x9 = some (ia G 32 dg)) (h12 : M x12 = some (sa G 4 rf)) (hr1 : M rh = some (ob 6 [.ref rb])) (hr2 : M rb = some (ia G 84 rc)) (hmc : mcJ G M x4 mh ms mq ins) (hwo : woA G M wd st fc fl tn) (hd9 : dif x9 ins) (hsep : ∀ i, i < 15 → wd i ∉ [mh, ms, mq, ins, x9]) (hrf : rf cc = some rh) (hcc : cc < 4) (nX : X ∉ [mh, ms, mq, ins, x9]) (n12 : x12 ∉ [mh, ms, mq, ins, x9]) (nrh : rh ∉ [mh, ms, mq, ins, x9]) (nrb : rb ∉ [mh, ms, mq, ins, x9]) : mm_i l yX8_failedCheck wsX8_failedCheck ({ frames := 5, cells := 0, slots := 0, locals := 180 } : Room) G ([.ref X, .int (nI cc), .ref (wd 0)] : List Value) M sz (fun r M' => (∃ k, r = nI k ∧ fckR st rc tn cc k) ∧ mcJ G M' x4 mh ms mq ins ∧ (∃ dg', M' x9 = some (ia G 32 dg')) ∧ mm_fr [mh, ms, mq, ins, x9] M M') := by
  refine mm_enter (cc := cX8_failedCheck) (maxL := 3) (ret := (some .int)) _ (by decide) rfl (Nat.le_of_ble_eq_true rfl) ?_
  intro p0 e0 s m0 be0 me0 c0 ls S hr hlocks hname hA hC hR hl
  have hx := S.1
  have hb := S.2.1
  have hl : lv_has ls 3 [(0, .ref X), (1, .int (nI cc)), (2, .ref (wd 0))] := hl
  have inRX2 : ∀ w ∈ wsX20, w ∈ wsX8_failedCheck := by decide +kernel
  have inRX4 : ∀ w ∈ wsX40, w ∈ wsX8_failedCheck := by decide +kernel
  have inRX5 : ∀ w ∈ wsX50, w ∈ wsX8_failedCheck := by decide +kernel
  have inRX6 : ∀ w ∈ wsX60, w ∈ wsX8_failedCheck := by decide +kernel
  have inRX7 : ∀ w ∈ wsX70, w ∈ wsX8_failedCheck := by decide +kernel
  have inRX8 : ∀ w ∈ wsX80, w ∈ wsX8_failedCheck := by decide +kernel
  have hF : mm_fr [mh, ms, mq, ins, x9] M M := mm_fr.rf
  refine lv_aload_n hx hb dX8_failedCheck_0 rfl (lv_at hl 0 rfl) ?_
  refine lv_aload_n hx hb dX8_failedCheck_1 rfl (lv_at hl 2 rfl) ?_
  refine mm_calli hA hR (va_runV (As := [.ref (wd 0)]) (rest := []) S (c_X8_areSigned l G M _ X x1 x4 x9 x10 x12 x13 x14 x15 x16 cl ll chg wl sp mh ms mq ins wd st fc fl tn dg hX h9 hmc hwo hd9 hsep) (cwV 1 S.2.2.2.2 gX8_failedCheck_X8_areSigned rfl rfl rfl (by decide +kernel) ⟨Nat.le_of_ble_eq_true rfl, Nat.le_of_ble_eq_true rfl⟩) (mm_preV hC hA hR _ hX rfl) rfl rfl hl.1 rfl (lv_room (Nat.le_of_ble_eq_true rfl)) dX8_failedCheck_2 ⟨Nat.le_of_ble_eq_true rfl, Nat.le_of_ble_eq_true rfl⟩) (fun r1 M2 H locs hp hR => ?_)
  obtain ⟨qA, hmc, ⟨dg2, h9⟩, ff⟩ := hp
  have hwo := hwo.out ff hsep
  have hX := ff.at hX nX
  have h12 := ff.at h12 n12
  have hr1 := ff.at hr1 nrh
  have hr2 := ff.at hr2 nrb
  have hF := hF.tr ff (mm_ic 0 rfl (mm_ic 1 rfl (mm_ic 2 rfl (mm_ic 3 rfl (mm_ic 4 rfl mm_i0)))))
  rcases qA with ⟨e1, qA⟩ | ⟨e1, qA⟩ <;> subst e1
  · skip
    refine lv_if_ne (tgt := 10) hx hb dX8_failedCheck_5 (by decide) (fun _ => ?_) (fun z => by first | exact absurd z (by decide) | exact absurd (by decide) z)
    obtain ⟨hw0, ⟨tf, hw1, htf⟩, hst, hw2, hw3, hw4, hw5, hw6⟩ := id hwo
    obtain ⟨k3a, k3b⟩ := hst cc (by omega)
    refine lv_aload_n hx hb dX8_failedCheck_10 rfl (lv_at hl 2 rfl) ?_
    refine mm_get S hC hR (C := RX7) (T := TX7) (N := 3) (ref := "ForkWatch$World") (v := .ref (wd 1)) 0 hw0 inRX7 rfl (by decide) (by decide +kernel) (fun _ h9 => h9) rfl dX8_failedCheck_11 ?_
    refine lv_iload_n hx hb dX8_failedCheck_14 rfl (lv_at hl 1 rfl) ?_
    refine mm_sald S hC hR hw1 (j := cc) (v := .ref (wd (7 + 2 * cc))) (by omega) (by omega) (by rw [htf _ (by omega)]; rfl) dX8_failedCheck_15 ?_
    refine mm_get S hC hR (C := RX5) (T := TX5) (N := 1) (ref := "ForkWatch$Statement") (v := .ref (wd (8 + 2 * cc))) 0 k3a inRX5 rfl (by decide) (by decide +kernel) (fun _ h9 => h9) rfl dX8_failedCheck_16 ?_
    refine lv_iconst (v := nI 0) hx hb dX8_failedCheck_19 (by decide) ?_
    refine lv_aload_n hx hb dX8_failedCheck_20 rfl (lv_at hl 0 rfl) ?_
    refine mm_get S hC hR (C := RX8) (T := TX8) (N := 14) (ref := "ForkWatch") (v := .ref x12) 4 hX inRX8 rfl (by decide) (by decide +kernel) (fun _ h9 => h9) rfl dX8_failedCheck_21 ?_
    refine lv_iload_n hx hb dX8_failedCheck_24 rfl (lv_at hl 1 rfl) ?_
    refine mm_sald S hC hR h12 (j := cc) (v := .ref rh) (by omega) (by omega) (by rw [hrf]; rfl) dX8_failedCheck_25 ?_
    refine mm_get S hC hR (C := RX5) (T := TX5) (N := 1) (ref := "ForkWatch$Statement") (v := .ref rb) 0 hr1 inRX5 rfl (by decide) (by decide +kernel) (fun _ h9 => h9) rfl dX8_failedCheck_26 ?_
    refine lv_iconst (v := nI 0) hx hb dX8_failedCheck_29 (by decide) ?_
    refine lv_bipush (v := nI 84) hx hb dX8_failedCheck_30 (by decide) ?_
    refine mm_calli hA hR (va_runS (As := [.ref (wd (8 + 2 * cc)), .int (nI 0), .ref rb, .int (nI 0), .int (nI 84)]) (rest := []) S (c_X8_sameRow l G M2 _ (wd (8 + 2 * cc)) rb 84 84 0 0 84 (st cc) rc k3b hr2 (by omega) (by omega) (by decide) (by decide)) (va_cwS 5 S.2.2.2.2 gX8_failedCheck_X8_sameRow rfl rfl rfl (by decide +kernel) ⟨Nat.le_of_ble_eq_true rfl, Nat.le_of_ble_eq_true rfl⟩) (mm_preS hC hA hR _) rfl rfl hl.1 rfl (lv_room (Nat.le_of_ble_eq_true rfl)) dX8_failedCheck_32 ⟨Nat.le_of_ble_eq_true rfl, Nat.le_of_ble_eq_true rfl⟩) (fun r4 M5 H locs hp hR => ?_)
    obtain ⟨qB, ff⟩ := hp
    have hwo := hwo.fr0 ff
    have hmc := hmc.fr0 ff
    have hX := ff.at hX mm_n0
    have h9 := ff.at h9 mm_n0
    have h12 := ff.at h12 mm_n0
    have hr1 := ff.at hr1 mm_n0
    have hr2 := ff.at hr2 mm_n0
    have hF := hF.tr ff mm_i0
    rcases qB with ⟨e1, qB⟩ | ⟨e1, qB⟩ <;> subst e1
    · skip
      have qB : ∀ i, i < 84 → st cc i = rc i := fun i hi => by have z := qB i hi; rw [Nat.zero_add] at z; exact z
      refine lv_if_ne (tgt := 40) hx hb dX8_failedCheck_35 (by decide) (fun _ => ?_) (fun z => by first | exact absurd z (by decide) | exact absurd (by decide) z)
      obtain ⟨hw0, ⟨tf, hw1, htf⟩, hst, hw2, hw3, hw4, hw5, hw6⟩ := id hwo
      refine lv_aload_n hx hb dX8_failedCheck_40 rfl (lv_at hl 2 rfl) ?_
      refine mm_calli hA hR (va_runV (As := []) (rest := []) S (c_X7_isInLine l G M5 _ wd st fc fl tn hwo) (cwV 0 S.2.2.2.2 gX8_failedCheck_X7_isInLine rfl rfl rfl (by decide +kernel) ⟨Nat.le_of_ble_eq_true rfl, Nat.le_of_ble_eq_true rfl⟩) (mm_preV hC hA hR _ hw0 rfl) rfl rfl hl.1 rfl (lv_room (Nat.le_of_ble_eq_true rfl)) dX8_failedCheck_41 ⟨Nat.le_of_ble_eq_true rfl, Nat.le_of_ble_eq_true rfl⟩) (fun r6 M7 H locs hp hR => ?_)
      obtain ⟨qC, ff⟩ := hp
      have hwo := hwo.fr0 ff
      have hmc := hmc.fr0 ff
      have hX := ff.at hX mm_n0
      have h9 := ff.at h9 mm_n0
      have h12 := ff.at h12 mm_n0
      have hr1 := ff.at hr1 mm_n0
      have hr2 := ff.at hr2 mm_n0
      have hF := hF.tr ff mm_i0
      rcases qC with ⟨e1, qC⟩ | ⟨e1, qC⟩ <;> subst e1
      · skip
        refine lv_if_ne (tgt := 49) hx hb dX8_failedCheck_44 (by decide) (fun _ => ?_) (fun z => by first | exact absurd z (by decide) | exact absurd (by decide) z)
        obtain ⟨hw0, ⟨tf, hw1, htf⟩, hst, hw2, hw3, hw4, hw5, hw6⟩ := id hwo
        refine lv_aload_n hx hb dX8_failedCheck_49 rfl (lv_at hl 2 rfl) ?_
        refine mm_get S hC hR (C := RX7) (T := TX7) (N := 3) (ref := "ForkWatch$World") (v := .ref (wd 5)) 2 hw0 inRX7 rfl (by decide) (by decide +kernel) (fun _ h9 => h9) rfl dX8_failedCheck_50 ?_
        refine lv_aload_n hx hb dX8_failedCheck_53 rfl (lv_at hl 2 rfl) ?_
        refine mm_callq hA hR (va_runV (As := []) (rest := [.ref (wd 5)]) S (c_X7_greatest l G M7 _ wd st fc fl tn hwo) (cwV 0 S.2.2.2.2 gX8_failedCheck_X7_greatest rfl rfl rfl (by decide +kernel) ⟨Nat.le_of_ble_eq_true rfl, Nat.le_of_ble_eq_true rfl⟩) (mm_preV hC hA hR _ hw0 rfl) rfl rfl hl.1 rfl (lv_room (Nat.le_of_ble_eq_true rfl)) dX8_failedCheck_54 ⟨Nat.le_of_ble_eq_true rfl, Nat.le_of_ble_eq_true rfl⟩) (fun r8 M9 H locs hp hR => ?_)
        obtain ⟨e1, ff⟩ := hp
        subst e1
        have hwo := hwo.fr0 ff
        have hmc := hmc.fr0 ff
        have hX := ff.at hX mm_n0
        have h9 := ff.at h9 mm_n0
        have h12 := ff.at h12 mm_n0
        have hr1 := ff.at hr1 mm_n0
        have hr2 := ff.at hr2 mm_n0
        have hF := hF.tr ff mm_i0
        obtain ⟨hw0, ⟨tf, hw1, htf⟩, hst, hw2, hw3, hw4, hw5, hw6⟩ := id hwo
        have hgr : gr st ≤ 3 := gr_le st 3
        obtain ⟨k10a, k10b⟩ := hst (gr st) (by omega)
        refine mm_get S hC hR (C := RX5) (T := TX5) (N := 1) (ref := "ForkWatch$Statement") (v := .ref (wd (8 + 2 * (gr st)))) 0 k10a inRX5 rfl (by decide) (by decide +kernel) (fun _ h9 => h9) rfl dX8_failedCheck_57 ?_
        refine lv_bipush (v := nI 20) hx hb dX8_failedCheck_60 (by decide) ?_
        refine mm_calli hA hR (va_runV (As := [.ref (wd (8 + 2 * (gr st))), .int (nI 20)]) (rest := []) S (c_X6_hasRoot l G M9 _ (wd 5) (wd 6) (wd (8 + 2 * gr st)) 84 20 tn (st (gr st)) hw5 hw6 k10b (by omega) (by decide)) (cwV 2 S.2.2.2.2 gX8_failedCheck_X6_hasRoot rfl rfl rfl (by decide +kernel) ⟨Nat.le_of_ble_eq_true rfl, Nat.le_of_ble_eq_true rfl⟩) (mm_preV hC hA hR _ hw5 rfl) rfl rfl hl.1 rfl (lv_room (Nat.le_of_ble_eq_true rfl)) dX8_failedCheck_62 ⟨Nat.le_of_ble_eq_true rfl, Nat.le_of_ble_eq_true rfl⟩) (fun r11 M12 H locs hp hR => ?_)
        obtain ⟨qD, ff⟩ := hp
        have hwo := hwo.fr0 ff
        have hmc := hmc.fr0 ff
        have hX := ff.at hX mm_n0
        have h9 := ff.at h9 mm_n0
        have h12 := ff.at h12 mm_n0
        have hr1 := ff.at hr1 mm_n0
        have hr2 := ff.at hr2 mm_n0
        have hF := hF.tr ff mm_i0
        rcases qD with ⟨e1, qD⟩ | ⟨e1, qD⟩ <;> subst e1
        · skip
          refine lv_if_eq (tgt := 72) hx hb dX8_failedCheck_65 (by decide) (fun z => by first | exact absurd z (by decide) | exact absurd (by decide) z) (fun _ => ?_)
          refine lv_iconst (v := nI 0) hx hb dX8_failedCheck_68 (by decide) ?_
          refine lv_goto (tgt := 73) hx hb dX8_failedCheck_69 (by decide) ?_
          exact mm_iret S hr hlocks hR ⟨⟨0, rfl, Or.inr (Or.inr (Or.inr (Or.inl ⟨rfl, qA, qB, qC, qD⟩)))⟩, hmc, ⟨_, h9⟩, hF⟩ dX8_failedCheck_73
        · skip
          refine lv_if_eq (tgt := 72) hx hb dX8_failedCheck_65 (by decide) (fun _ => ?_) (fun z => by first | exact absurd z (by decide) | exact absurd (by decide) z)
          refine lv_iconst (v := nI 4) hx hb dX8_failedCheck_72 (by decide) ?_
          exact mm_iret S hr hlocks hR ⟨⟨4, rfl, Or.inr (Or.inr (Or.inr (Or.inr ⟨rfl, qA, qB, qC, qD⟩)))⟩, hmc, ⟨_, h9⟩, hF⟩ dX8_failedCheck_73
      · skip
        refine lv_if_ne (tgt := 49) hx hb dX8_failedCheck_44 (by decide) (fun z => by first | exact absurd z (by decide) | exact absurd (by decide) z) (fun _ => ?_)
        refine lv_iconst (v := nI 3) hx hb dX8_failedCheck_47 (by decide) ?_
        exact mm_iret S hr hlocks hR ⟨⟨3, rfl, Or.inr (Or.inr (Or.inl ⟨rfl, qA, qB, qC⟩))⟩, hmc, ⟨_, h9⟩, hF⟩ dX8_failedCheck_48
    · skip
      refine lv_if_ne (tgt := 40) hx hb dX8_failedCheck_35 (by decide) (fun z => by first | exact absurd z (by decide) | exact absurd (by decide) z) (fun _ => ?_)
      refine lv_iconst (v := nI 2) hx hb dX8_failedCheck_38 (by decide) ?_
      exact mm_iret S hr hlocks hR ⟨⟨2, rfl, Or.inr (Or.inl ⟨rfl, qA, fun z => qB (fun i hi => by rw [Nat.zero_add]; exact z i hi)⟩)⟩, hmc, ⟨_, h9⟩, hF⟩ dX8_failedCheck_39
  · skip
    refine lv_if_ne (tgt := 10) hx hb dX8_failedCheck_5 (by decide) (fun z => by first | exact absurd z (by decide) | exact absurd (by decide) z) (fun _ => ?_)
    refine lv_iconst (v := nI 1) hx hb dX8_failedCheck_8 (by decide) ?_
    exact mm_iret S hr hlocks hR ⟨⟨1, rfl, Or.inl ⟨rfl, qA⟩⟩, hmc, ⟨_, h9⟩, hF⟩ dX8_failedCheck_9

/-- the counts of a client's next statement -/
noncomputable def ms_go (st : Nat → Nat → Int32) (rc : Nat → Int32) (c : Nat) : Nat → Nat → Int32
  | 0 => rc
  | k + 1 => sc (ms_go st rc c k) k (ct (st (gr st)) k + (if k = c then nI 1 else nI 0).toInt64)
noncomputable def nst (st : Nat → Nat → Int32) (rc tn : Nat → Int32) (c : Nat) : Nat → Int32 := sgn tn (ms_go st rc c 4)

set_option maxHeartbeats 4000000 in
set_option maxRecDepth 100000 in
/-- makeStatement(client, world) -/
theorem c_X8_makeStatement (l : Launch) (G : mm_G) (M : mm_M) (sz : Nat) (X x1 x4 x9 x10 x12 x13 x14 x15 x16 : Nat) (cl ll : Nat) (chg wl sp : Int32) (mh ms mq ins : Nat) (wd : Nat → Nat) (st : Nat → Nat → Int32) (fc fl tn : Nat → Int32) (rh rb cc : Nat) (rf : Nat → Option Nat) (rc : Nat → Int32) (hX : M X = some (ob 9 [.ref x1, .ref x4, .ref x9, .ref x10, .ref x12, .ref x13, .ref x14, .int (nI cl), .ref x15, .int (nI ll), .ref x16, .int chg, .int wl, .int sp])) (h12 : M x12 = some (sa G 4 rf)) (hr1 : M rh = some (ob 6 [.ref rb])) (hr2 : M rb = some (ia G 84 rc)) (hmc : mcJ G M x4 mh ms mq ins) (hwo : woA G M wd st fc fl tn) (hI : woI wd) (hsep : ∀ i, i < 15 → wd i ∉ [mh, ms, mq, ins, rb, X]) (hrf : rf cc = some rh) (hcc : cc < 4) (nX : X ∉ [mh, ms, mq, ins]) (nrh : rh ∉ [mh, ms, mq, ins, X]) (n12 : x12 ∉ [mh, ms, mq, ins]) (hwX : X ∉ [wd (8 + 2 * cc)]) : mm_v l yX8_makeStatement wsX8_makeStatement ({ frames := 5, cells := 0, slots := 0, locals := 180 } : Room) G ([.ref X, .int (nI cc), .ref (wd 0)] : List Value) M sz (fun M' => M' rb = some (ia G 84 (nst st rc tn cc)) ∧ woA G M' wd (updS st cc (va_cpy (nst st rc tn cc) (st cc) 0 0 84)) fc fl tn ∧ M' X = some (ob 9 [.ref x1, .ref x4, .ref x9, .ref x10, .ref x12, .ref x13, .ref x14, .int (nI cl), .ref x15, .int (nI ll), .ref x16, .int chg, .int (wl + nI 1), .int sp]) ∧ mcJ G M' x4 mh ms mq ins ∧ mm_fr [mh, ms, mq, ins, rb, wd (8 + 2 * cc), X] M M') := by
  refine mm_enter (cc := cX8_makeStatement) (maxL := 6) (ret := none) _ (by decide) rfl (Nat.le_of_ble_eq_true rfl) ?_
  intro p0 e0 s m0 be0 me0 c0 ls S hr hlocks hname hA hC hR hl
  have hx := S.1
  have hb := S.2.1
  have hl : lv_has ls 6 [(0, .ref X), (1, .int (nI cc)), (2, .ref (wd 0))] := hl
  have inRX2 : ∀ w ∈ wsX20, w ∈ wsX8_makeStatement := by decide +kernel
  have inRX4 : ∀ w ∈ wsX40, w ∈ wsX8_makeStatement := by decide +kernel
  have inRX5 : ∀ w ∈ wsX50, w ∈ wsX8_makeStatement := by decide +kernel
  have inRX6 : ∀ w ∈ wsX60, w ∈ wsX8_makeStatement := by decide +kernel
  have inRX7 : ∀ w ∈ wsX70, w ∈ wsX8_makeStatement := by decide +kernel
  have inRX8 : ∀ w ∈ wsX80, w ∈ wsX8_makeStatement := by decide +kernel
  have hF : mm_fr [mh, ms, mq, ins, rb, wd (8 + 2 * cc), X] M M := mm_fr.rf
  have hgr : gr st ≤ 3 := gr_le st 3
  obtain ⟨hw0, ⟨tf, hw1, htf⟩, hst, hw2, hw3, hw4, hw5, hw6⟩ := id hwo
  refine lv_aload_n hx hb dX8_makeStatement_0 rfl (lv_at hl 0 rfl) ?_
  refine mm_get S hC hR (C := RX8) (T := TX8) (N := 14) (ref := "ForkWatch") (v := .ref x12) 4 hX inRX8 rfl (by decide) (by decide +kernel) (fun _ h9 => h9) rfl dX8_makeStatement_1 ?_
  refine lv_iload_n hx hb dX8_makeStatement_4 rfl (lv_at hl 1 rfl) ?_
  refine mm_sald S hC hR h12 (j := cc) (v := .ref rh) (by omega) (by omega) (by rw [hrf]; rfl) dX8_makeStatement_5 ?_
  refine lv_astore_n (lv' := [(3, .ref rh), (0, .ref X), (1, .int (nI cc)), (2, .ref (wd 0))]) hx hb dX8_makeStatement_6 rfl hl (by decide) rfl (fun ls hl => ?_)
  refine lv_aload_n hx hb dX8_makeStatement_7 rfl (lv_at hl 3 rfl) ?_
  refine mm_callq hA hR (va_runV (As := []) (rest := []) S (c_X7_greatest l G M _ wd st fc fl tn hwo) (cwV 0 S.2.2.2.2 gX8_makeStatement_X7_greatest rfl rfl rfl (by decide +kernel) ⟨Nat.le_of_ble_eq_true rfl, Nat.le_of_ble_eq_true rfl⟩) (mm_preV hC hA hR _ hw0 rfl) rfl rfl hl.1 rfl (lv_room (Nat.le_of_ble_eq_true rfl)) dX8_makeStatement_8 ⟨Nat.le_of_ble_eq_true rfl, Nat.le_of_ble_eq_true rfl⟩) (fun r13 M14 H locs hp hR => ?_)
  obtain ⟨e1, ff⟩ := hp
  subst e1
  have hwo := hwo.fr0 ff
  have hmc := hmc.fr0 ff
  have hX := ff.at hX mm_n0
  have h12 := ff.at h12 mm_n0
  have hr1 := ff.at hr1 mm_n0
  have hr2 := ff.at hr2 mm_n0
  have hw0 := ff.at hw0 mm_n0
  have hw1 := ff.at hw1 mm_n0
  have hw2 := ff.at hw2 mm_n0
  have hw3 := ff.at hw3 mm_n0
  have hw4 := ff.at hw4 mm_n0
  have hw5 := ff.at hw5 mm_n0
  have hw6 := ff.at hw6 mm_n0
  have hF := hF.tr ff mm_i0
  refine lv_astore (lv' := [(4, .ref (wd (7 + 2 * (gr st)))), (3, .ref rh), (0, .ref X), (1, .int (nI cc)), (2, .ref (wd 0))]) hx hb dX8_makeStatement_11 hl (by decide) rfl (fun ls hl => ?_)
  refine lv_iconst (v := nI 0) hx hb dX8_makeStatement_13 (by decide) ?_
  refine lv_istore (lv' := [(5, .int (nI 0)), (4, .ref (wd (7 + 2 * (gr st)))), (3, .ref rh), (0, .ref X), (1, .int (nI cc)), (2, .ref (wd 0))]) hx hb dX8_makeStatement_14 hl (by decide) rfl (fun ls hl => ?_)
  have loop : ∀ (n x : Nat) (M1 : mm_M) (H : Heap) (locs : List Loc) (ls : Array Slot), 4 < x + n → x ≤ 4 → M1 X = some (ob 9 [.ref x1, .ref x4, .ref x9, .ref x10, .ref x12, .ref x13, .ref x14, .int (nI cl), .ref x15, .int (nI ll), .ref x16, .int chg, .int wl, .int sp]) → M1 x12 = some (sa G 4 rf) → M1 rh = some (ob 6 [.ref rb]) → M1 rb = some (ia G 84 (ms_go st rc cc x)) → mcJ G M1 x4 mh ms mq ins → woA G M1 wd st fc fl tn → mm_fr [mh, ms, mq, ins, rb, wd (8 + 2 * cc), X] M M1 → mm_R G s (mm_A M sz) M1 H locs → lv_has ls 6 [(0, .ref X), (1, .int (nI cc)), (2, .ref (wd 0)), (3, .ref rh), (4, .ref (wd (7 + 2 * (gr st)))), (5, .int (nI x))] → W p0 l e0 ({ frames := 5, cells := 0, slots := 0, locals := 180 } : Room) s m0 ([.ref X, .int (nI cc), .ref (wd 0)] : List Value).toArray be0 me0 c0 H locs 0 0 (MQ be0 (va_Qv (fun M' => M' rb = some (ia G 84 (nst st rc tn cc)) ∧ woA G M' wd (updS st cc (va_cpy (nst st rc tn cc) (st cc) 0 0 84)) fc fl tn ∧ M' X = some (ob 9 [.ref x1, .ref x4, .ref x9, .ref x10, .ref x12, .ref x13, .ref x14, .int (nI cl), .ref x15, .int (nI ll), .ref x16, .int chg, .int (wl + nI 1), .int sp]) ∧ mcJ G M' x4 mh ms mq ins ∧ mm_fr [mh, ms, mq, ins, rb, wd (8 + 2 * cc), X] M M') (fun M' t => mm_H G (mm_A M sz) M' t.heap) (mm_A M sz)) ([.ref X, .int (nI cc), .ref (wd 0)] : List Value).toArray s 0 0 (mm_A M sz)) (F0 m0 16 ls []) := by
    intro n
    induction n with
    | zero =>
      intro x M1 H locs ls hn hx4 hX h12 hr1 hr2 hmc hwo hF hR hl
      omega
    | succ n ih =>
      intro x M1 H locs ls hn hx4 hX h12 hr1 hr2 hmc hwo hF hR hl
      have wdrb : ∀ i, i < 15 → wd i ∉ [rb] := fun i hi => mm_nc (fun z => hsep i hi (by rw [z]; simp)) mm_n0
      refine lv_iload hx hb dX8_makeStatement_16 (lv_at hl 5 rfl) ?_
      refine lv_iconst (v := nI 4) hx hb dX8_makeStatement_18 (by decide) ?_
      refine lv_icmp_ge (tgt := 54) hx hb dX8_makeStatement_19 (by decide) (fun c15 => ?_) (fun c15 => ?_)
      · have c15 : 4 ≤ x := (nI_leI (a := 4) (b := x) (by omega) (by omega)).mp c15
        have e4 : x = 4 := by omega
        subst e4
        obtain ⟨hw0, ⟨tf, hw1, htf⟩, hst, hw2, hw3, hw4, hw5, hw6⟩ := id hwo
        refine lv_aload_n hx hb dX8_makeStatement_54 rfl (lv_at hl 0 rfl) ?_
        refine lv_aload_n hx hb dX8_makeStatement_55 rfl (lv_at hl 3 rfl) ?_
        refine lv_aload_n hx hb dX8_makeStatement_56 rfl (lv_at hl 2 rfl) ?_
        refine mm_get S hC hR (C := RX7) (T := TX7) (N := 3) (ref := "ForkWatch$World") (v := .ref (wd 5)) 2 hw0 inRX7 rfl (by decide) (by decide +kernel) (fun _ h9 => h9) rfl dX8_makeStatement_57 ?_
        refine mm_callv hA hR (va_runV (As := [.ref rh, .ref (wd 5)]) (rest := []) S (c_X8_sign l G M1 _ X x1 x4 x9 x10 x12 x13 x14 x15 x16 cl ll chg wl sp mh ms mq ins rh rb (wd 5) (wd 6) (ms_go st rc cc 4) tn hX hr1 hr2 hw5 hw6 hmc) (cwV 2 S.2.2.2.2 gX8_makeStatement_X8_sign rfl rfl rfl (by decide +kernel) ⟨Nat.le_of_ble_eq_true rfl, Nat.le_of_ble_eq_true rfl⟩) (mm_preV hC hA hR _ hX rfl) rfl rfl hl.1 rfl (lv_room (Nat.le_of_ble_eq_true rfl)) dX8_makeStatement_60 ⟨Nat.le_of_ble_eq_true rfl, Nat.le_of_ble_eq_true rfl⟩) (fun M24 H locs hp hR => ?_)
        obtain ⟨e1, hmc2, ff⟩ := hp
        have wdL : ∀ i, i < 15 → wd i ∉ [mh, ms, mq, ins, rb] := fun i hi z => hsep i hi (by simp only [List.mem_cons, List.not_mem_nil, or_false] at z ⊢; rcases z with z | z | z | z | z <;> simp [z])
        have hwo := hwo.out ff wdL
        have hmc := hmc2
        have hX := ff.at hX (fun z => by simp only [List.mem_cons, List.not_mem_nil, or_false] at z; rcases z with z | z | z | z | z; exact nX (by simp [z]); exact nX (by simp [z]); exact nX (by simp [z]); exact nX (by simp [z]); exact mm_neoi hX hr2 z)
        have hr1 := ff.at hr1 (fun z => by simp only [List.mem_cons, List.not_mem_nil, or_false] at z; rcases z with z | z | z | z | z; exact nrh (by simp [z]); exact nrh (by simp [z]); exact nrh (by simp [z]); exact nrh (by simp [z]); exact mm_neoi hr1 hr2 z)
        have hr2 := e1
        have hF := hF.tr ff (mm_ic 0 rfl (mm_ic 1 rfl (mm_ic 2 rfl (mm_ic 3 rfl (mm_ic 4 rfl mm_i0)))))
        obtain ⟨hw0, ⟨tf, hw1, htf⟩, hst, hw2, hw3, hw4, hw5, hw6⟩ := id hwo
        obtain ⟨k25a, k25b⟩ := hst cc (by omega)
        refine lv_aload_n hx hb dX8_makeStatement_63 rfl (lv_at hl 2 rfl) ?_
        refine mm_get S hC hR (C := RX7) (T := TX7) (N := 3) (ref := "ForkWatch$World") (v := .ref (wd 1)) 0 hw0 inRX7 rfl (by decide) (by decide +kernel) (fun _ h9 => h9) rfl dX8_makeStatement_64 ?_
        refine lv_iload_n hx hb dX8_makeStatement_67 rfl (lv_at hl 1 rfl) ?_
        refine mm_sald S hC hR hw1 (j := cc) (v := .ref (wd (7 + 2 * cc))) (by omega) (by omega) (by rw [htf _ (by omega)]; rfl) dX8_makeStatement_68 ?_
        refine lv_aload_n hx hb dX8_makeStatement_69 rfl (lv_at hl 3 rfl) ?_
        refine mm_callv hA hR (va_runV (As := [.ref rh]) (rest := []) S (c_X5_become l G M24 _ (wd (7 + 2 * cc)) (wd (8 + 2 * cc)) rh rb (st cc) (sgn tn (ms_go st rc cc 4)) k25a k25b hr1 hr2) (cwV 1 S.2.2.2.2 gX8_makeStatement_X5_become rfl rfl rfl (by decide +kernel) ⟨Nat.le_of_ble_eq_true rfl, Nat.le_of_ble_eq_true rfl⟩) (mm_preV hC hA hR _ k25a rfl) rfl rfl hl.1 rfl (lv_room (Nat.le_of_ble_eq_true rfl)) dX8_makeStatement_70 ⟨Nat.le_of_ble_eq_true rfl, Nat.le_of_ble_eq_true rfl⟩) (fun M27 H locs hp hR => ?_)
        obtain ⟨e1, ff⟩ := hp
        have hrbw : rb ∉ [wd (8 + 2 * cc)] := mm_nc (fun z => hsep (8 + 2 * cc) (by omega) (by rw [← z]; simp)) mm_n0
        obtain ⟨km0, ⟨mf, mg, ma, mb, km1, km2, km3⟩, mi, km4⟩ := id hmc
        have hmc := hmc.out ff (mm_nc (mm_neoi km0 k25b) mm_n0) (mm_nc (mm_neoi km1 k25b) mm_n0) (mm_nc (mm_nelen km2 k25b (by decide)) mm_n0) (mm_nc (mm_nelen km3 k25b (by decide)) mm_n0) (mm_nc (mm_nelen km4 k25b (by decide)) mm_n0)
        have hwo := hwo.bytes hI hcc ff e1
        have hX := ff.at hX hwX
        have hr2 := ff.at hr2 hrbw
        have hF := hF.tr ff (mm_ic 5 rfl mm_i0)
        refine lv_aload_n hx hb dX8_makeStatement_73 rfl (lv_at hl 0 rfl) ?_
        refine lv_dup hx hb dX8_makeStatement_74 rfl ?_
        refine mm_get S hC hR (C := RX8) (T := TX8) (N := 14) (ref := "ForkWatch") (v := .int wl) 12 hX inRX8 rfl (by decide) (by decide +kernel) (fun _ h9 => h9) rfl dX8_makeStatement_75 ?_
        refine lv_iconst (v := nI 1) hx hb dX8_makeStatement_78 (by decide) ?_
        refine lv_iadd hx hb dX8_makeStatement_79 ?_
        have hX0 := hX
        refine mm_put S hC hR (C := RX8) (T := TX8) (N := 14) (ref := "ForkWatch") 12 hX inRX8 rfl tyX8_ok nmX8 (by decide) (by decide +kernel) (fun _ h9 => h9) rfl rfl rfl (Nat.le_of_ble_eq_true rfl) dX8_makeStatement_80 (fun H locs M28 g30 f29 hR => ?_)
        have hX : M28 X = some (ob 9 [.ref x1, .ref x4, .ref x9, .ref x10, .ref x12, .ref x13, .ref x14, .int (nI cl), .ref x15, .int (nI ll), .ref x16, .int chg, .int (wl + (nI 1)), .int sp]) := g30
        have hF := hF.tr f29 (mm_ic 6 rfl mm_i0)
        have hwo := hwo.out f29 (fun i hi => mm_nc (fun z => hsep i hi (by rw [z]; simp)) mm_n0)
        obtain ⟨km0, ⟨mf, mg, ma, mb, km1, km2, km3⟩, mi, km4⟩ := id hmc
        have hmc := hmc.out f29 (mm_nc (mm_neoo km0 hX0 (by decide)) mm_n0) (mm_nc (mm_neoo km1 hX0 (by decide)) mm_n0) (mm_nc (Ne.symm (mm_neoi hX0 km2)) mm_n0) (mm_nc (Ne.symm (mm_neoi hX0 km3)) mm_n0) (mm_nc (Ne.symm (mm_neoi hX0 km4)) mm_n0)
        have hr2 := f29.at hr2 (mm_nc (Ne.symm (mm_neoi hX0 hr2)) mm_n0)
        exact mm_vret S hr hlocks hR ⟨hr2, hwo, hX, hmc, hF⟩ dX8_makeStatement_83
      · have c15 : ¬ (4 ≤ x) := fun z => c15 ((nI_leI (a := 4) (b := x) (by omega) (by omega)).mpr z)
        obtain ⟨hw0, ⟨tf, hw1, htf⟩, hst, hw2, hw3, hw4, hw5, hw6⟩ := id hwo
        obtain ⟨k16a, k16b⟩ := hst (gr st) (by omega)
        refine lv_aload_n hx hb dX8_makeStatement_22 rfl (lv_at hl 3 rfl) ?_
        refine lv_iload hx hb dX8_makeStatement_23 (lv_at hl 5 rfl) ?_
        refine lv_aload hx hb dX8_makeStatement_25 (lv_at hl 4 rfl) ?_
        refine lv_iload hx hb dX8_makeStatement_27 (lv_at hl 5 rfl) ?_
        refine mm_calll hA hR (va_runV (As := [.int (nI x)]) (rest := [.int (nI x), .ref rh]) S (c_X5_countOf l G M1 _ (wd (7 + 2 * gr st)) (wd (8 + 2 * gr st)) x (st (gr st)) k16a k16b (by omega)) (cwV 1 S.2.2.2.2 gX8_makeStatement_X5_countOf rfl rfl rfl (by decide +kernel) ⟨Nat.le_of_ble_eq_true rfl, Nat.le_of_ble_eq_true rfl⟩) (mm_preV hC hA hR _ k16a rfl) rfl rfl hl.1 rfl (lv_room (Nat.le_of_ble_eq_true rfl)) dX8_makeStatement_29 ⟨Nat.le_of_ble_eq_true rfl, Nat.le_of_ble_eq_true rfl⟩) (fun r17 M18 H locs hp hR => ?_)
        obtain ⟨e1, ff⟩ := hp
        subst e1
        have hwo := hwo.fr0 ff
        have hmc := hmc.fr0 ff
        have hX := ff.at hX mm_n0
        have h12 := ff.at h12 mm_n0
        have hr1 := ff.at hr1 mm_n0
        have hr2 := ff.at hr2 mm_n0
        have hF := hF.tr ff mm_i0
        refine lv_iload hx hb dX8_makeStatement_32 (lv_at hl 5 rfl) ?_
        refine lv_iload_n hx hb dX8_makeStatement_34 rfl (lv_at hl 1 rfl) ?_
        refine lv_icmp_ne (tgt := 42) hx hb dX8_makeStatement_35 (by decide) (fun c2 => ?_) (fun c2 => ?_)
        · have c2 : x ≠ cc := fun z => c2 (congrArg nI z)
          refine lv_iconst (v := nI 0) hx hb dX8_makeStatement_42 (by decide) ?_
          refine lv_i2l hx hb dX8_makeStatement_43 rfl ?_
          refine lv_ladd hx hb dX8_makeStatement_44 ?_
          refine mm_callv hA hR (va_runV (As := [.int (nI x), .long ((ct (st (gr st)) x) + ((nI 0).toInt64))]) (rest := []) S (c_X5_setCount l G M18 _ rh rb x (ms_go st rc cc x) (ct (st (gr st)) x + (nI 0).toInt64) hr1 hr2 (by omega)) (cwV 2 S.2.2.2.2 gX8_makeStatement_X5_setCount rfl rfl rfl (by decide +kernel) ⟨Nat.le_of_ble_eq_true rfl, Nat.le_of_ble_eq_true rfl⟩) (mm_preV hC hA hR _ hr1 rfl) rfl rfl hl.1 rfl (lv_room (Nat.le_of_ble_eq_true rfl)) dX8_makeStatement_45 ⟨Nat.le_of_ble_eq_true rfl, Nat.le_of_ble_eq_true rfl⟩) (fun M20 H locs hp hR => ?_)
          obtain ⟨e1, ff⟩ := hp
          have hwo := hwo.out ff wdrb
          obtain ⟨km0, ⟨mf, mg, ma, mb, km1, km2, km3⟩, mi, km4⟩ := id hmc
          have hmc := hmc.out ff (mm_nc (mm_neoi km0 hr2) mm_n0) (mm_nc (mm_neoi km1 hr2) mm_n0) (mm_nc (mm_nelen km2 hr2 (by decide)) mm_n0) (mm_nc (mm_nelen km3 hr2 (by decide)) mm_n0) (mm_nc (mm_nelen km4 hr2 (by decide)) mm_n0)
          have hX := ff.at hX (mm_nc (mm_neoi hX hr2) mm_n0)
          have h12 := ff.at h12 (mm_nc (mm_nesa h12 hr2) mm_n0)
          have hr1 := ff.at hr1 (mm_nc (mm_neoi hr1 hr2) mm_n0)
          have hr2 : M20 rb = some (ia G 84 (sc (ms_go st rc cc x) x (ct (st (gr st)) x + (nI 0).toInt64))) := e1
          have hF := hF.tr ff (mm_ic 4 rfl mm_i0)
          refine lv_iinc (v := (nI (x + 1))) (lv' := [(5, .int (nI (x + 1))), (0, .ref X), (1, .int (nI cc)), (2, .ref (wd 0)), (3, .ref rh), (4, .ref (wd (7 + 2 * (gr st))))]) hx hb dX8_makeStatement_48 hl (k := 5) rfl (by rw [show Int32.ofInt 1 = nI 1 from by decide]; exact nI_add _ _) (by decide) rfl (fun ls hl => ?_)
          refine lv_goto (tgt := 16) hx hb dX8_makeStatement_51 (by decide) ?_
          have ems : sc (ms_go st rc cc x) x (ct (st (gr st)) x + (nI 0).toInt64) = ms_go st rc cc (x + 1) := by show _ = sc (ms_go st rc cc x) x (ct (st (gr st)) x + (if x = cc then nI 1 else nI 0).toInt64); rw [if_neg c2]
          exact ih (x + 1) _ H locs ls (by omega) (by omega) hX h12 hr1 (by rw [← ems]; exact hr2) hmc hwo hF hR (lv_sub hl [1, 2, 3, 4, 5, 0] rfl)
        · have c2 : x = cc := (nI_eq (a := x) (b := cc) (by omega) (by omega)).mp c2
          refine lv_iconst (v := nI 1) hx hb dX8_makeStatement_38 (by decide) ?_
          refine lv_goto (tgt := 43) hx hb dX8_makeStatement_39 (by decide) ?_
          refine lv_i2l hx hb dX8_makeStatement_43 rfl ?_
          refine lv_ladd hx hb dX8_makeStatement_44 ?_
          refine mm_callv hA hR (va_runV (As := [.int (nI x), .long ((ct (st (gr st)) x) + ((nI 1).toInt64))]) (rest := []) S (c_X5_setCount l G M18 _ rh rb x (ms_go st rc cc x) (ct (st (gr st)) x + (nI 1).toInt64) hr1 hr2 (by omega)) (cwV 2 S.2.2.2.2 gX8_makeStatement_X5_setCount rfl rfl rfl (by decide +kernel) ⟨Nat.le_of_ble_eq_true rfl, Nat.le_of_ble_eq_true rfl⟩) (mm_preV hC hA hR _ hr1 rfl) rfl rfl hl.1 rfl (lv_room (Nat.le_of_ble_eq_true rfl)) dX8_makeStatement_45 ⟨Nat.le_of_ble_eq_true rfl, Nat.le_of_ble_eq_true rfl⟩) (fun M22 H locs hp hR => ?_)
          obtain ⟨e1, ff⟩ := hp
          have hwo := hwo.out ff wdrb
          obtain ⟨km0, ⟨mf, mg, ma, mb, km1, km2, km3⟩, mi, km4⟩ := id hmc
          have hmc := hmc.out ff (mm_nc (mm_neoi km0 hr2) mm_n0) (mm_nc (mm_neoi km1 hr2) mm_n0) (mm_nc (mm_nelen km2 hr2 (by decide)) mm_n0) (mm_nc (mm_nelen km3 hr2 (by decide)) mm_n0) (mm_nc (mm_nelen km4 hr2 (by decide)) mm_n0)
          have hX := ff.at hX (mm_nc (mm_neoi hX hr2) mm_n0)
          have h12 := ff.at h12 (mm_nc (mm_nesa h12 hr2) mm_n0)
          have hr1 := ff.at hr1 (mm_nc (mm_neoi hr1 hr2) mm_n0)
          have hr2 : M22 rb = some (ia G 84 (sc (ms_go st rc cc x) x (ct (st (gr st)) x + (nI 1).toInt64))) := e1
          have hF := hF.tr ff (mm_ic 4 rfl mm_i0)
          refine lv_iinc (v := (nI (x + 1))) (lv' := [(5, .int (nI (x + 1))), (0, .ref X), (1, .int (nI cc)), (2, .ref (wd 0)), (3, .ref rh), (4, .ref (wd (7 + 2 * (gr st))))]) hx hb dX8_makeStatement_48 hl (k := 5) rfl (by rw [show Int32.ofInt 1 = nI 1 from by decide]; exact nI_add _ _) (by decide) rfl (fun ls hl => ?_)
          refine lv_goto (tgt := 16) hx hb dX8_makeStatement_51 (by decide) ?_
          have ems : sc (ms_go st rc cc x) x (ct (st (gr st)) x + (nI 1).toInt64) = ms_go st rc cc (x + 1) := by show _ = sc (ms_go st rc cc x) x (ct (st (gr st)) x + (if x = cc then nI 1 else nI 0).toInt64); rw [if_pos c2]
          exact ih (x + 1) _ H locs ls (by omega) (by omega) hX h12 hr1 (by rw [← ems]; exact hr2) hmc hwo hF hR (lv_sub hl [1, 2, 3, 4, 5, 0] rfl)
  exact loop 5 0 _ _ _ ls (by omega) (by omega) hX h12 hr1 hr2 hmc hwo hF hR (lv_sub hl [3, 4, 5, 2, 1, 0] rfl)
