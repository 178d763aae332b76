def setL (ln : Nat → Nat) (fi len : Nat) : Nat → Nat := fun x => if x = fi then len else ln x
theorem setL_s {ln : Nat → Nat} {fi len : Nat} : setL ln fi len fi = len := if_pos rfl
theorem setL_n {ln : Nat → Nat} {fi len x : Nat} (h : x ≠ fi) : setL ln fi len x = ln x := if_neg h
theorem mm_n6 {a x1 x2 x3 x4 x5 x6 : Nat} (h1 : a ≠ x1) (h2 : a ≠ x2) (h3 : a ≠ x3) (h4 : a ≠ x4) (h5 : a ≠ x5) (h6 : a ≠ x6) : a ∉ [x1, x2, x3, x4, x5, x6] := mm_nc h1 (mm_nc h2 (mm_nc h3 (mm_nc h4 (mm_nc h5 (mm_nc h6 mm_n0)))))

set_option maxHeartbeats 4000000 in
set_option maxRecDepth 100000 in
/-- put(file, bytes, length, sha) -/
theorem c_X7_put (l : Launch) (G : mm_G) (M : mm_M) (sz : Nat) (wd : Nat → Nat) (st : Nat → Nat → Int32) (fc fl tn : Nat → Int32) (h hs hq : Nat) (a b : Int32) (f g : Nat → Int32) (y k fi len : Nat) (r : Nat → Int32) (ln : Nat → Nat) (h1 : M h = some (ob 5 [.ref hs, .ref hq, .int a, .int b])) (h2 : M hs = some (ia G 8 f)) (h3 : M hq = some (ia G 64 g)) (hy : M y = some (ia G k r)) (hwo : woA G M wd st fc fl tn) (hI : woI wd) (hsep : ∀ i, i < 15 → wd i ≠ h ∧ wd i ≠ hs ∧ wd i ≠ hq) (ht : tOK fc fl tn ln) (hfi : fi < 16) (hlen : len ≤ 12) (hk : len ≤ k) (hk2 : k < 2 ^ 31) : mm_v l yX7_put wsX7_put ({ frames := 5, cells := 0, slots := 0, locals := 170 } : Room) G ([.ref (wd 0), .int (nI fi), .ref y, .int (nI len), .ref h] : List Value) M sz (fun M' => ∃ tn', woA G M' wd st (va_cpy r fc 0 (fi * 12) len) (upd fl fi (nI len)) tn' ∧ tOK (va_cpy r fc 0 (fi * 12) len) (upd fl fi (nI len)) tn' (setL ln fi len) ∧ shJ G M' h hs hq ∧ mm_fr [h, hs, hq, wd 3, wd 4, wd 6] M M') := by
  refine mm_enter (cc := cX7_put) (maxL := 5) (ret := none) _ (by decide) rfl (Nat.le_of_ble_eq_true rfl) ?_
  intro p0 e0 s m0 be0 me0 c0 ls S hr hlocks hname hA hC hR hl
  have hx := S.1
  have hb := S.2.1
  have hl : lv_has ls 5 [(0, .ref (wd 0)), (1, .int (nI fi)), (2, .ref y), (3, .int (nI len)), (4, .ref h)] := hl
  have inRX0 : ∀ w ∈ wsX00, w ∈ wsX7_put := by decide +kernel
  have inRX4 : ∀ w ∈ wsX40, w ∈ wsX7_put := by decide +kernel
  have inRX6 : ∀ w ∈ wsX60, w ∈ wsX7_put := by decide +kernel
  have inRX7 : ∀ w ∈ wsX70, w ∈ wsX7_put := by decide +kernel
  have hF : mm_fr [h, hs, hq, wd 3, wd 4, wd 6] M M := mm_fr.rf
  obtain ⟨hw0, ⟨tf, hw1, htf⟩, hst, hw2, hw3, hw4, hw5, hw6⟩ := id hwo
  refine lv_aload_n hx hb dX7_put_0 rfl (lv_at hl 0 rfl) ?_
  refine mm_get S hC hR (C := RX7) (T := TX7) (N := 3) (ref := "ForkWatch$World") (v := .ref (wd 2)) 1 hw0 inRX7 rfl (by decide) (by decide +kernel) (fun _ h9 => h9) rfl dX7_put_1 ?_
  refine lv_iload_n hx hb dX7_put_4 rfl (lv_at hl 1 rfl) ?_
  refine lv_aload_n hx hb dX7_put_5 rfl (lv_at hl 2 rfl) ?_
  refine lv_iload_n hx hb dX7_put_6 rfl (lv_at hl 3 rfl) ?_
  refine mm_callv hA hR (va_runV (As := [.int (nI fi), .ref y, .int (nI len)]) (rest := []) S (c_X0_put l G M _ (wd 2) (wd 3) (wd 4) y k fi len fc fl r hw2 hw3 hw4 hy hfi hlen hk hk2) (cwV 3 S.2.2.2.2 gX7_put_X0_put rfl rfl rfl (by decide +kernel) ⟨Nat.le_of_ble_eq_true rfl, Nat.le_of_ble_eq_true rfl⟩) (mm_preV hC hA hR _ hw2 rfl) rfl rfl hl.1 rfl (lv_room (Nat.le_of_ble_eq_true rfl)) dX7_put_7 ⟨Nat.le_of_ble_eq_true rfl, Nat.le_of_ble_eq_true rfl⟩) (fun M2 H locs hp hR => ?_)
  obtain ⟨⟨e2, e3, e4⟩, ff⟩ := hp
  have h1 := ff.at h1 (mm_nc (mm_neoi h1 hw3) (mm_nc (mm_neoi h1 hw4) mm_n0))
  have h2 := ff.at h2 (mm_nc (mm_nelen h2 hw3 (by decide)) (mm_nc (mm_nelen h2 hw4 (by decide)) mm_n0))
  have h3 := ff.at h3 (mm_nc (mm_nelen h3 hw3 (by decide)) (mm_nc (mm_nelen h3 hw4 (by decide)) mm_n0))
  have hw0 := ff.at hw0 (mm_nc (mm_neoi hw0 hw3) (mm_nc (mm_neoi hw0 hw4) mm_n0))
  have hw2 := ff.at hw2 (mm_nc (mm_neoi hw2 hw3) (mm_nc (mm_neoi hw2 hw4) mm_n0))
  have hw5 := ff.at hw5 (mm_nc (mm_neoi hw5 hw3) (mm_nc (mm_neoi hw5 hw4) mm_n0))
  have hw6 := ff.at hw6 (mm_nc (mm_nelen hw6 hw3 (by decide)) (mm_nc (mm_nelen hw6 hw4 (by decide)) mm_n0))
  have hw3 : M2 (wd 3) = some (ia G 192 (va_cpy r fc 0 (fi * 12) len)) := e3
  have hw4 : M2 (wd 4) = some (ia G 16 (upd fl fi (nI len))) := e4
  have hF := hF.tr ff (mm_ic 3 rfl (mm_ic 4 rfl mm_i0))
  refine lv_aload_n hx hb dX7_put_10 rfl (lv_at hl 0 rfl) ?_
  refine mm_get S hC hR (C := RX7) (T := TX7) (N := 3) (ref := "ForkWatch$World") (v := .ref (wd 5)) 2 hw0 inRX7 rfl (by decide) (by decide +kernel) (fun _ h9 => h9) rfl dX7_put_11 ?_
  refine lv_aload_n hx hb dX7_put_14 rfl (lv_at hl 0 rfl) ?_
  refine mm_get S hC hR (C := RX7) (T := TX7) (N := 3) (ref := "ForkWatch$World") (v := .ref (wd 2)) 1 hw0 inRX7 rfl (by decide) (by decide +kernel) (fun _ h9 => h9) rfl dX7_put_15 ?_
  refine lv_iload_n hx hb dX7_put_18 rfl (lv_at hl 1 rfl) ?_
  refine lv_aload hx hb dX7_put_19 (lv_at hl 4 rfl) ?_
  have hln2 : ∀ x, x < 16 → (upd fl fi (nI len)) x = nI ((setL ln fi len) x) ∧ (setL ln fi len) x ≤ 12 := fun x hx => by by_cases e : x = fi; (subst e; unfold upd; rw [if_pos rfl, setL_s]; exact ⟨rfl, hlen⟩); (unfold upd; rw [if_neg e, setL_n e]; exact ht.1 x hx)
  have ht2 : trO (va_cpy r fc 0 (fi * 12) len) (setL ln fi len) tn (fun x => x ≠ fi) (fun _ => True) := ⟨fun x hx hne j hj => by rw [setL_n hne, ht.2.1 x hx trivial j hj]; exact congrFun (leafd_ag (fun i hi => (cpy_no (by have := (ht.1 x hx).2; omega)).symm)) j, fun n g1 g2 _ j hj => ht.2.2 n g1 g2 trivial j hj⟩
  refine mm_callv hA hR (va_runV (As := [.ref (wd 2), .int (nI fi), .ref h]) (rest := []) S (c_X6_refresh l G M2 _ (wd 5) (wd 6) (wd 2) (wd 3) (wd 4) h hs hq fi (setL ln fi len) tn (va_cpy r fc 0 (fi * 12) len) (upd fl fi (nI len)) _ _ _ _ h1 h2 h3 hw5 hw6 hw2 hw3 hw4 hfi hln2 ht2) (cwV 3 S.2.2.2.2 gX7_put_X6_refresh rfl rfl rfl (by decide +kernel) ⟨Nat.le_of_ble_eq_true rfl, Nat.le_of_ble_eq_true rfl⟩) (mm_preV hC hA hR _ hw5 rfl) rfl rfl hl.1 rfl (lv_room (Nat.le_of_ble_eq_true rfl)) dX7_put_21 ⟨Nat.le_of_ble_eq_true rfl, Nat.le_of_ble_eq_true rfl⟩) (fun M4 H locs hp hR => ?_)
  obtain ⟨tn', e6, htt, ej, ff⟩ := hp
  obtain ⟨f2, g2, y2, z2, e1, e2, e3⟩ := id ej
  have hw0 := ff.at hw0 (mm_nc (mm_neoo hw0 h1 (by decide)) (mm_nc (mm_neoi hw0 h2) (mm_nc (mm_neoi hw0 h3) (mm_nc (mm_neoi hw0 hw6) mm_n0))))
  have hw2 := ff.at hw2 (mm_nc (mm_neoo hw2 h1 (by decide)) (mm_nc (mm_neoi hw2 h2) (mm_nc (mm_neoi hw2 h3) (mm_nc (mm_neoi hw2 hw6) mm_n0))))
  have hw3 := ff.at hw3 (mm_nc (Ne.symm (mm_neoi h1 hw3)) (mm_nc (mm_nelen hw3 h2 (by decide)) (mm_nc (mm_nelen hw3 h3 (by decide)) (mm_nc (mm_nelen hw3 hw6 (by decide)) mm_n0))))
  have hw4 := ff.at hw4 (mm_nc (Ne.symm (mm_neoi h1 hw4)) (mm_nc (mm_nelen hw4 h2 (by decide)) (mm_nc (mm_nelen hw4 h3 (by decide)) (mm_nc (mm_nelen hw4 hw6 (by decide)) mm_n0))))
  have hw5 := ff.at hw5 (mm_nc (mm_neoo hw5 h1 (by decide)) (mm_nc (mm_neoi hw5 h2) (mm_nc (mm_neoi hw5 h3) (mm_nc (mm_neoi hw5 hw6) mm_n0))))
  have h1 : M4 h = some (ob 5 [.ref hs, .ref hq, .int y2, .int z2]) := e1
  have h2 : M4 hs = some (ia G 8 f2) := e2
  have h3 : M4 hq = some (ia G 64 g2) := e3
  have hw6 : M4 (wd 6) = some (ia G 1024 tn') := e6
  have hF := hF.tr ff (mm_ic 0 rfl (mm_ic 1 rfl (mm_ic 2 rfl (mm_ic 5 rfl mm_i0))))
  exact mm_vret S hr hlocks hR ⟨tn', hwo.body hF (fun i hi a3 a4 a6 => mm_n6 (hsep i hi).1 (hsep i hi).2.1 (hsep i hi).2.2 (wo_ne hI hi (by omega) a3) (wo_ne hI hi (by omega) a4) (wo_ne hI hi (by omega) a6)) hw3 hw4 hw6, ⟨hln2, htt⟩, ej, hF⟩ dX7_put_24

set_option maxHeartbeats 4000000 in
set_option maxRecDepth 100000 in
/-- flip(file, i, mask, sha) -/
theorem c_X7_flip (l : Launch) (G : mm_G) (M : mm_M) (sz : Nat) (wd : Nat → Nat) (st : Nat → Nat → Int32) (fc fl tn : Nat → Int32) (h hs hq : Nat) (a b : Int32) (f g : Nat → Int32) (fi i : Nat) (x : Int32) (ln : Nat → Nat) (h1 : M h = some (ob 5 [.ref hs, .ref hq, .int a, .int b])) (h2 : M hs = some (ia G 8 f)) (h3 : M hq = some (ia G 64 g)) (hwo : woA G M wd st fc fl tn) (hI : woI wd) (hsep : ∀ i, i < 15 → wd i ≠ h ∧ wd i ≠ hs ∧ wd i ≠ hq) (ht : tOK fc fl tn ln) (hfi : fi < 16) (hi : i < 12) : mm_v l yX7_flip wsX7_flip ({ frames := 5, cells := 0, slots := 0, locals := 170 } : Room) G ([.ref (wd 0), .int (nI fi), .int (nI i), .int x, .ref h] : List Value) M sz (fun M' => ∃ tn', woA G M' wd st (upd fc (fi * 12 + i) (fc (fi * 12 + i) ^^^ x)) fl tn' ∧ tOK (upd fc (fi * 12 + i) (fc (fi * 12 + i) ^^^ x)) fl tn' ln ∧ shJ G M' h hs hq ∧ mm_fr [h, hs, hq, wd 3, wd 4, wd 6] M M') := by
  refine mm_enter (cc := cX7_flip) (maxL := 5) (ret := none) _ (by decide) rfl (Nat.le_of_ble_eq_true rfl) ?_
  intro p0 e0 s m0 be0 me0 c0 ls S hr hlocks hname hA hC hR hl
  have hx := S.1
  have hb := S.2.1
  have hl : lv_has ls 5 [(0, .ref (wd 0)), (1, .int (nI fi)), (2, .int (nI i)), (3, .int x), (4, .ref h)] := hl
  have inRX0 : ∀ w ∈ wsX00, w ∈ wsX7_flip := by decide +kernel
  have inRX4 : ∀ w ∈ wsX40, w ∈ wsX7_flip := by decide +kernel
  have inRX6 : ∀ w ∈ wsX60, w ∈ wsX7_flip := by decide +kernel
  have inRX7 : ∀ w ∈ wsX70, w ∈ wsX7_flip := by decide +kernel
  have hF : mm_fr [h, hs, hq, wd 3, wd 4, wd 6] M M := mm_fr.rf
  obtain ⟨hw0, ⟨tf, hw1, htf⟩, hst, hw2, hw3, hw4, hw5, hw6⟩ := id hwo
  refine lv_aload_n hx hb dX7_flip_0 rfl (lv_at hl 0 rfl) ?_
  refine mm_get S hC hR (C := RX7) (T := TX7) (N := 3) (ref := "ForkWatch$World") (v := .ref (wd 2)) 1 hw0 inRX7 rfl (by decide) (by decide +kernel) (fun _ h9 => h9) rfl dX7_flip_1 ?_
  refine mm_get S hC hR (C := RX0) (T := TX0) (N := 2) (ref := "ForkWatch$Files") (v := .ref (wd 3)) 0 hw2 inRX0 rfl (by decide) (by decide +kernel) (fun _ h9 => h9) rfl dX7_flip_4 ?_
  refine lv_iload_n hx hb dX7_flip_7 rfl (lv_at hl 1 rfl) ?_
  refine lv_bipush (v := nI 12) hx hb dX7_flip_8 (by decide) ?_
  refine lv_imul hx hb dX7_flip_10 ?_
  refine mm_eqi (pk_mul _ _) ?_
  refine lv_iload_n hx hb dX7_flip_11 rfl (lv_at hl 2 rfl) ?_
  refine lv_iadd hx hb dX7_flip_12 ?_
  refine mm_eqi (nI_add _ _) ?_
  refine lv_dup2_11 hx hb dX7_flip_13 rfl rfl ?_
  refine mm_iald S hC hR hw3 (j := (fi * 12 + i)) (by omega) (by omega) dX7_flip_14 ?_
  refine lv_iload_n hx hb dX7_flip_15 rfl (lv_at hl 3 rfl) ?_
  refine lv_ixor hx hb dX7_flip_16 ?_
  refine mm_iast S hC hR hw3 (j := (fi * 12 + i)) (by omega) (by omega) dX7_flip_17 (fun H locs M5 g7 f6 hR => ?_)
  have h1 := f6.at h1 (mm_nc (mm_neoi h1 hw3) mm_n0)
  have h2 := f6.at h2 (mm_nc (mm_nelen h2 hw3 (by decide)) mm_n0)
  have h3 := f6.at h3 (mm_nc (mm_nelen h3 hw3 (by decide)) mm_n0)
  have hw0 := f6.at hw0 (mm_nc (mm_neoi hw0 hw3) mm_n0)
  have hw2 := f6.at hw2 (mm_nc (mm_neoi hw2 hw3) mm_n0)
  have hw4 := f6.at hw4 (mm_nc (mm_nelen hw4 hw3 (by decide)) mm_n0)
  have hw5 := f6.at hw5 (mm_nc (mm_neoi hw5 hw3) mm_n0)
  have hw6 := f6.at hw6 (mm_nc (mm_nelen hw6 hw3 (by decide)) mm_n0)
  have hw3 : M5 (wd 3) = some (ia G 192 (upd fc (fi * 12 + i) ((fc (fi * 12 + i)) ^^^ x))) := g7
  have hF := hF.tr f6 (mm_ic 3 rfl mm_i0)
  refine lv_aload_n hx hb dX7_flip_18 rfl (lv_at hl 0 rfl) ?_
  refine mm_get S hC hR (C := RX7) (T := TX7) (N := 3) (ref := "ForkWatch$World") (v := .ref (wd 5)) 2 hw0 inRX7 rfl (by decide) (by decide +kernel) (fun _ h9 => h9) rfl dX7_flip_19 ?_
  refine lv_aload_n hx hb dX7_flip_22 rfl (lv_at hl 0 rfl) ?_
  refine mm_get S hC hR (C := RX7) (T := TX7) (N := 3) (ref := "ForkWatch$World") (v := .ref (wd 2)) 1 hw0 inRX7 rfl (by decide) (by decide +kernel) (fun _ h9 => h9) rfl dX7_flip_23 ?_
  refine lv_iload_n hx hb dX7_flip_26 rfl (lv_at hl 1 rfl) ?_
  refine lv_aload hx hb dX7_flip_27 (lv_at hl 4 rfl) ?_
  have hln2 : ∀ x, x < 16 → (fl) x = nI (ln x) ∧ ln x ≤ 12 := ht.1
  have ht2 : trO (upd fc (fi * 12 + i) (fc (fi * 12 + i) ^^^ x)) (ln) tn (fun x => x ≠ fi) (fun _ => True) := ⟨fun y hy hne j hj => by rw [ht.2.1 y hy trivial j hj]; exact congrFun (leafd_ag (fun k hk => by unfold upd; rw [if_neg (by have := (ht.1 y hy).2; omega)])) j, fun n g1 g2 _ j hj => ht.2.2 n g1 g2 trivial j hj⟩
  refine mm_callv hA hR (va_runV (As := [.ref (wd 2), .int (nI fi), .ref h]) (rest := []) S (c_X6_refresh l G M5 _ (wd 5) (wd 6) (wd 2) (wd 3) (wd 4) h hs hq fi (ln) tn (upd fc (fi * 12 + i) (fc (fi * 12 + i) ^^^ x)) (fl) _ _ _ _ h1 h2 h3 hw5 hw6 hw2 hw3 hw4 hfi hln2 ht2) (cwV 3 S.2.2.2.2 gX7_flip_X6_refresh rfl rfl rfl (by decide +kernel) ⟨Nat.le_of_ble_eq_true rfl, Nat.le_of_ble_eq_true rfl⟩) (mm_preV hC hA hR _ hw5 rfl) rfl rfl hl.1 rfl (lv_room (Nat.le_of_ble_eq_true rfl)) dX7_flip_29 ⟨Nat.le_of_ble_eq_true rfl, Nat.le_of_ble_eq_true rfl⟩) (fun M9 H locs hp hR => ?_)
  obtain ⟨tn', e6, htt, ej, ff⟩ := hp
  obtain ⟨f2, g2, y2, z2, e1, e2, e3⟩ := id ej
  have hw0 := ff.at hw0 (mm_nc (mm_neoo hw0 h1 (by decide)) (mm_nc (mm_neoi hw0 h2) (mm_nc (mm_neoi hw0 h3) (mm_nc (mm_neoi hw0 hw6) mm_n0))))
  have hw2 := ff.at hw2 (mm_nc (mm_neoo hw2 h1 (by decide)) (mm_nc (mm_neoi hw2 h2) (mm_nc (mm_neoi hw2 h3) (mm_nc (mm_neoi hw2 hw6) mm_n0))))
  have hw3 := ff.at hw3 (mm_nc (Ne.symm (mm_neoi h1 hw3)) (mm_nc (mm_nelen hw3 h2 (by decide)) (mm_nc (mm_nelen hw3 h3 (by decide)) (mm_nc (mm_nelen hw3 hw6 (by decide)) mm_n0))))
  have hw4 := ff.at hw4 (mm_nc (Ne.symm (mm_neoi h1 hw4)) (mm_nc (mm_nelen hw4 h2 (by decide)) (mm_nc (mm_nelen hw4 h3 (by decide)) (mm_nc (mm_nelen hw4 hw6 (by decide)) mm_n0))))
  have hw5 := ff.at hw5 (mm_nc (mm_neoo hw5 h1 (by decide)) (mm_nc (mm_neoi hw5 h2) (mm_nc (mm_neoi hw5 h3) (mm_nc (mm_neoi hw5 hw6) mm_n0))))
  have h1 : M9 h = some (ob 5 [.ref hs, .ref hq, .int y2, .int z2]) := e1
  have h2 : M9 hs = some (ia G 8 f2) := e2
  have h3 : M9 hq = some (ia G 64 g2) := e3
  have hw6 : M9 (wd 6) = some (ia G 1024 tn') := e6
  have hF := hF.tr ff (mm_ic 0 rfl (mm_ic 1 rfl (mm_ic 2 rfl (mm_ic 5 rfl mm_i0))))
  exact mm_vret S hr hlocks hR ⟨tn', hwo.body hF (fun i hi a3 a4 a6 => mm_n6 (hsep i hi).1 (hsep i hi).2.1 (hsep i hi).2.2 (wo_ne hI hi (by omega) a3) (wo_ne hI hi (by omega) a4) (wo_ne hI hi (by omega) a6)) hw3 hw4 hw6, ⟨hln2, htt⟩, ej, hF⟩ dX7_flip_32

set_option maxHeartbeats 4000000 in
set_option maxRecDepth 100000 in
/-- become(other) -/
theorem c_X7_become (l : Launch) (G : mm_G) (M : mm_M) (sz : Nat) (wd : Nat → Nat) (st : Nat → Nat → Int32) (fc fl tn : Nat → Int32) (wd' : Nat → Nat) (st' : Nat → Nat → Int32) (fc' fl' tn' : Nat → Int32)  (hwo : woA G M wd st fc fl tn) (hwo' : woA G M wd' st' fc' fl' tn') (hI : woI wd) (hsep : ∀ i j, i < 15 → j < 15 → wd i ≠ wd' j) : mm_v l yX7_become wsX7_become ({ frames := 2, cells := 0, slots := 0, locals := 60 } : Room) G ([.ref (wd 0), .ref (wd' 0)] : List Value) M sz (fun M' => woA G M' wd (fun c => va_cpy (st' c) (st c) 0 0 84) (va_cpy fc' fc 0 0 192) (va_cpy fl' fl 0 0 16) (va_cpy tn' tn 0 0 1024) ∧ mm_fr [wd 8, wd 10, wd 12, wd 14, wd 3, wd 4, wd 6] M M') := by
  refine mm_enter (cc := cX7_become) (maxL := 3) (ret := none) _ (by decide) rfl (Nat.le_of_ble_eq_true rfl) ?_
  intro p0 e0 s m0 be0 me0 c0 ls S hr hlocks hname hA hC hR hl
  have hx := S.1
  have hb := S.2.1
  have hl : lv_has ls 3 [(0, .ref (wd 0)), (1, .ref (wd' 0))] := hl
  have inRX0 : ∀ w ∈ wsX00, w ∈ wsX7_become := by decide +kernel
  have inRX5 : ∀ w ∈ wsX50, w ∈ wsX7_become := by decide +kernel
  have inRX6 : ∀ w ∈ wsX60, w ∈ wsX7_become := by decide +kernel
  have inRX7 : ∀ w ∈ wsX70, w ∈ wsX7_become := by decide +kernel
  have hF : mm_fr [wd 8, wd 10, wd 12, wd 14, wd 3, wd 4, wd 6] M M := mm_fr.rf
  refine lv_iconst (v := nI 0) hx hb dX7_become_0 (by decide) ?_
  refine lv_istore_n (lv' := [(2, .int (nI 0)), (0, .ref (wd 0)), (1, .ref (wd' 0))]) hx hb dX7_become_1 rfl hl (by decide) rfl (fun ls hl => ?_)
  have loop : ∀ (n x : Nat) (st1 : Nat → Nat → Int32) (M1 : mm_M) (H : Heap) (locs : List Loc) (ls : Array Slot), 4 < x + n → x ≤ 4 → (∀ c, c < 4 → st1 c = if c < x then va_cpy (st' c) (st c) 0 0 84 else st c) → woA G M1 wd st1 fc fl tn → woA G M1 wd' st' fc' fl' tn' → mm_fr [wd 8, wd 10, wd 12, wd 14, wd 3, wd 4, wd 6] M M1 → mm_R G s (mm_A M sz) M1 H locs → lv_has ls 3 [(0, .ref (wd 0)), (1, .ref (wd' 0)), (2, .int (nI x))] → W p0 l e0 ({ frames := 2, cells := 0, slots := 0, locals := 60 } : Room) s m0 ([.ref (wd 0), .ref (wd' 0)] : List Value).toArray be0 me0 c0 H locs 0 0 (MQ be0 (va_Qv (fun M' => woA G M' wd (fun c => va_cpy (st' c) (st c) 0 0 84) (va_cpy fc' fc 0 0 192) (va_cpy fl' fl 0 0 16) (va_cpy tn' tn 0 0 1024) ∧ mm_fr [wd 8, wd 10, wd 12, wd 14, wd 3, wd 4, wd 6] M M') (fun M' t => mm_H G (mm_A M sz) M' t.heap) (mm_A M sz)) ([.ref (wd 0), .ref (wd' 0)] : List Value).toArray s 0 0 (mm_A M sz)) (F0 m0 2 ls []) := by
    intro n
    induction n with
    | zero =>
      intro x st1 M1 H locs ls hn hx4 hst1 hwo hwo' hF hR hl
      omega
    | succ n ih =>
      intro x st1 M1 H locs ls hn hx4 hst1 hwo hwo' hF hR hl
      refine lv_iload_n hx hb dX7_become_2 rfl (lv_at hl 2 rfl) ?_
      refine lv_iconst (v := nI 4) hx hb dX7_become_3 (by decide) ?_
      refine lv_icmp_ge (tgt := 28) hx hb dX7_become_4 (by decide) (fun c10 => ?_) (fun c10 => ?_)
      · have c10 : 4 ≤ x := (nI_leI (a := 4) (b := x) (by omega) (by omega)).mp c10
        obtain ⟨hw0, ⟨tf, hw1, htf⟩, hst, hw2, hw3, hw4, hw5, hw6⟩ := id hwo
        obtain ⟨hw0', ⟨tf', hw1', htf'⟩, hst', hw2', hw3', hw4', hw5', hw6'⟩ := id hwo'
        refine lv_aload_n hx hb dX7_become_28 rfl (lv_at hl 0 rfl) ?_
        refine mm_get S hC hR (C := RX7) (T := TX7) (N := 3) (ref := "ForkWatch$World") (v := .ref (wd 2)) 1 hw0 inRX7 rfl (by decide) (by decide +kernel) (fun _ h9 => h9) rfl dX7_become_29 ?_
        refine lv_aload_n hx hb dX7_become_32 rfl (lv_at hl 1 rfl) ?_
        refine mm_get S hC hR (C := RX7) (T := TX7) (N := 3) (ref := "ForkWatch$World") (v := .ref (wd' 2)) 1 hw0' inRX7 rfl (by decide) (by decide +kernel) (fun _ h9 => h9) rfl dX7_become_33 ?_
        refine mm_callv hA hR (va_runV (As := [.ref (wd' 2)]) (rest := []) S (c_X0_become l G M1 _ (wd 2) (wd 3) (wd 4) (wd' 2) (wd' 3) (wd' 4) fc fl fc' fl' hw2 hw3 hw4 hw2' hw3' hw4') (cwV 1 S.2.2.2.2 gX7_become_X0_become rfl rfl rfl (by decide +kernel) ⟨Nat.le_of_ble_eq_true rfl, Nat.le_of_ble_eq_true rfl⟩) (mm_preV hC hA hR _ hw2 rfl) rfl rfl hl.1 rfl (lv_room (Nat.le_of_ble_eq_true rfl)) dX7_become_36 ⟨Nat.le_of_ble_eq_true rfl, Nat.le_of_ble_eq_true rfl⟩) (fun M12 H locs hp hR => ?_)
        obtain ⟨⟨e2, e3, e4⟩, fa⟩ := hp
        have ff := fa
        have hw0 := ff.at hw0 (mm_nc (mm_neoi hw0 hw3) (mm_nc (mm_neoi hw0 hw4) mm_n0))
        have hw2 := ff.at hw2 (mm_nc (mm_neoi hw2 hw3) (mm_nc (mm_neoi hw2 hw4) mm_n0))
        have hw5 := ff.at hw5 (mm_nc (mm_neoi hw5 hw3) (mm_nc (mm_neoi hw5 hw4) mm_n0))
        have hw6 := ff.at hw6 (mm_nc (mm_nelen hw6 hw3 (by decide)) (mm_nc (mm_nelen hw6 hw4 (by decide)) mm_n0))
        have hw0' := ff.at hw0' (mm_nc (Ne.symm (hsep 3 0 (by decide) (by decide))) (mm_nc (Ne.symm (hsep 4 0 (by decide) (by decide))) mm_n0))
        have hw2' := ff.at hw2' (mm_nc (Ne.symm (hsep 3 2 (by decide) (by decide))) (mm_nc (Ne.symm (hsep 4 2 (by decide) (by decide))) mm_n0))
        have hw3' := ff.at hw3' (mm_nc (Ne.symm (hsep 3 3 (by decide) (by decide))) (mm_nc (Ne.symm (hsep 4 3 (by decide) (by decide))) mm_n0))
        have hw4' := ff.at hw4' (mm_nc (Ne.symm (hsep 3 4 (by decide) (by decide))) (mm_nc (Ne.symm (hsep 4 4 (by decide) (by decide))) mm_n0))
        have hw5' := ff.at hw5' (mm_nc (Ne.symm (hsep 3 5 (by decide) (by decide))) (mm_nc (Ne.symm (hsep 4 5 (by decide) (by decide))) mm_n0))
        have hw6' := ff.at hw6' (mm_nc (Ne.symm (hsep 3 6 (by decide) (by decide))) (mm_nc (Ne.symm (hsep 4 6 (by decide) (by decide))) mm_n0))
        have hw3 : M12 (wd 3) = some (ia G 192 (va_cpy fc' fc 0 0 192)) := e3
        have hw4 : M12 (wd 4) = some (ia G 16 (va_cpy fl' fl 0 0 16)) := e4
        have hF := hF.tr ff (mm_ic 4 rfl (mm_ic 5 rfl mm_i0))
        refine lv_aload_n hx hb dX7_become_39 rfl (lv_at hl 0 rfl) ?_
        refine mm_get S hC hR (C := RX7) (T := TX7) (N := 3) (ref := "ForkWatch$World") (v := .ref (wd 5)) 2 hw0 inRX7 rfl (by decide) (by decide +kernel) (fun _ h9 => h9) rfl dX7_become_40 ?_
        refine lv_aload_n hx hb dX7_become_43 rfl (lv_at hl 1 rfl) ?_
        refine mm_get S hC hR (C := RX7) (T := TX7) (N := 3) (ref := "ForkWatch$World") (v := .ref (wd' 5)) 2 hw0' inRX7 rfl (by decide) (by decide +kernel) (fun _ h9 => h9) rfl dX7_become_44 ?_
        refine mm_callv hA hR (va_runV (As := [.ref (wd' 5)]) (rest := []) S (c_X6_become l G M12 _ (wd 5) (wd 6) (wd' 5) (wd' 6) tn tn' hw5 hw6 hw5' hw6') (cwV 1 S.2.2.2.2 gX7_become_X6_become rfl rfl rfl (by decide +kernel) ⟨Nat.le_of_ble_eq_true rfl, Nat.le_of_ble_eq_true rfl⟩) (mm_preV hC hA hR _ hw5 rfl) rfl rfl hl.1 rfl (lv_room (Nat.le_of_ble_eq_true rfl)) dX7_become_47 ⟨Nat.le_of_ble_eq_true rfl, Nat.le_of_ble_eq_true rfl⟩) (fun M14 H locs hp hR => ?_)
        obtain ⟨⟨e5, e6⟩, fb⟩ := hp
        have ff := fb
        have hw0 := ff.at hw0 (mm_nc (mm_neoi hw0 hw6) mm_n0)
        have hw2 := ff.at hw2 (mm_nc (mm_neoi hw2 hw6) mm_n0)
        have hw3 := ff.at hw3 (mm_nc (mm_nelen hw3 hw6 (by decide)) mm_n0)
        have hw4 := ff.at hw4 (mm_nc (mm_nelen hw4 hw6 (by decide)) mm_n0)
        have hw5 := ff.at hw5 (mm_nc (mm_neoi hw5 hw6) mm_n0)
        have hw0' := ff.at hw0' (mm_nc (Ne.symm (hsep 6 0 (by decide) (by decide))) mm_n0)
        have hw2' := ff.at hw2' (mm_nc (Ne.symm (hsep 6 2 (by decide) (by decide))) mm_n0)
        have hw3' := ff.at hw3' (mm_nc (Ne.symm (hsep 6 3 (by decide) (by decide))) mm_n0)
        have hw4' := ff.at hw4' (mm_nc (Ne.symm (hsep 6 4 (by decide) (by decide))) mm_n0)
        have hw5' := ff.at hw5' (mm_nc (Ne.symm (hsep 6 5 (by decide) (by decide))) mm_n0)
        have hw6' := ff.at hw6' (mm_nc (Ne.symm (hsep 6 6 (by decide) (by decide))) mm_n0)
        have hw6 : M14 (wd 6) = some (ia G 1024 (va_cpy tn' tn 0 0 1024)) := e6
        have hF := hF.tr ff (mm_ic 6 rfl mm_i0)
        have fab : mm_fr [wd 3, wd 4, wd 6] M1 M14 := (fa.up (fun q h => (List.mem_cons.mp h).elim (fun z => by rw [z]; exact List.mem_cons_self) (fun h => (List.mem_cons.mp h).elim (fun z => by rw [z]; exact List.mem_cons_of_mem _ List.mem_cons_self) (fun z => absurd z List.not_mem_nil)))).tr fb (mm_ic 2 rfl mm_i0)
        have hw9 := hwo.body fab (fun i hi a3 a4 a6 => mm_nc (wo_ne hI hi (by omega) a3) (mm_nc (wo_ne hI hi (by omega) a4) (mm_nc (wo_ne hI hi (by omega) a6) mm_n0))) hw3 hw4 hw6
        have est : woA G M14 wd (fun c => va_cpy (st' c) (st c) 0 0 84) (va_cpy fc' fc 0 0 192) (va_cpy fl' fl 0 0 16) (va_cpy tn' tn 0 0 1024) := ⟨hw9.1, hw9.2.1, fun c hc => ⟨(hw9.2.2.1 c hc).1, by have z := (hw9.2.2.1 c hc).2; rw [hst1 c hc, if_pos (by omega)] at z; exact z⟩, hw9.2.2.2⟩
        exact mm_vret S hr hlocks hR ⟨est, hF⟩ dX7_become_50
      · have c10 : ¬ (4 ≤ x) := fun z => c10 ((nI_leI (a := 4) (b := x) (by omega) (by omega)).mpr z)
        obtain ⟨hw0, ⟨tf, hw1, htf⟩, hst, hw2, hw3, hw4, hw5, hw6⟩ := id hwo
        obtain ⟨hw0', ⟨tf', hw1', htf'⟩, hst', hw2', hw3', hw4', hw5', hw6'⟩ := id hwo'
        obtain ⟨k15a, k15b⟩ := hst x (by omega)
        obtain ⟨k16a, k16b⟩ := hst' x (by omega)
        refine lv_aload_n hx hb dX7_become_7 rfl (lv_at hl 0 rfl) ?_
        refine mm_get S hC hR (C := RX7) (T := TX7) (N := 3) (ref := "ForkWatch$World") (v := .ref (wd 1)) 0 hw0 inRX7 rfl (by decide) (by decide +kernel) (fun _ h9 => h9) rfl dX7_become_8 ?_
        refine lv_iload_n hx hb dX7_become_11 rfl (lv_at hl 2 rfl) ?_
        refine mm_sald S hC hR hw1 (j := x) (v := .ref (wd (7 + 2 * x))) (by omega) (by omega) (by rw [htf _ (by omega)]; rfl) dX7_become_12 ?_
        refine lv_aload_n hx hb dX7_become_13 rfl (lv_at hl 1 rfl) ?_
        refine mm_get S hC hR (C := RX7) (T := TX7) (N := 3) (ref := "ForkWatch$World") (v := .ref (wd' 1)) 0 hw0' inRX7 rfl (by decide) (by decide +kernel) (fun _ h9 => h9) rfl dX7_become_14 ?_
        refine lv_iload_n hx hb dX7_become_17 rfl (lv_at hl 2 rfl) ?_
        refine mm_sald S hC hR hw1' (j := x) (v := .ref (wd' (7 + 2 * x))) (by omega) (by omega) (by rw [htf' _ (by omega)]; rfl) dX7_become_18 ?_
        refine mm_callv hA hR (va_runV (As := [.ref (wd' (7 + 2 * x))]) (rest := []) S (c_X5_become l G M1 _ _ _ _ _ (st1 x) (st' x) k15a k15b k16a k16b) (cwV 1 S.2.2.2.2 gX7_become_X5_become rfl rfl rfl (by decide +kernel) ⟨Nat.le_of_ble_eq_true rfl, Nat.le_of_ble_eq_true rfl⟩) (mm_preV hC hA hR _ k15a rfl) rfl rfl hl.1 rfl (lv_room (Nat.le_of_ble_eq_true rfl)) dX7_become_19 ⟨Nat.le_of_ble_eq_true rfl, Nat.le_of_ble_eq_true rfl⟩) (fun M18 H locs hp hR => ?_)
        obtain ⟨e1, ff⟩ := hp
        have hwo' := hwo'.out ff (fun i hi => mm_nc (Ne.symm (hsep _ _ (by omega) hi)) mm_n0)
        have hwo := hwo.bytes hI (by omega) ff e1
        have hF := hF.tr ff (by intro q hq; rw [List.mem_singleton.mp hq]; rcases (show x = 0 ∨ x = 1 ∨ x = 2 ∨ x = 3 by omega) with e | e | e | e <;> subst e <;> exact Or.inl (by simp))
        refine lv_iinc (v := (nI (x + 1))) (lv' := [(2, .int (nI (x + 1))), (0, .ref (wd 0)), (1, .ref (wd' 0))]) hx hb dX7_become_22 hl (k := 2) rfl (by rw [show Int32.ofInt 1 = nI 1 from by decide]; exact nI_add _ _) (by decide) rfl (fun ls hl => ?_)
        refine lv_goto (tgt := 2) hx hb dX7_become_25 (by decide) ?_
        exact ih (x + 1) _ _ H locs ls (by omega) (by omega) (fun c hc => by unfold updS; by_cases e : c = x; (subst e; rw [if_pos rfl, if_pos (by omega), hst1 c hc, if_neg (by omega)]); (rw [if_neg e, hst1 c hc]; by_cases e2 : c < x; (rw [if_pos e2, if_pos (by omega)]); (rw [if_neg e2, if_neg (by omega)]))) hwo hwo' hF hR (lv_sub hl [1, 2, 0] rfl)
  exact loop 5 0 st _ _ _ ls (by omega) (by omega) (fun c hc => by rw [if_neg (by omega)]) hwo hwo' hF hR (lv_sub hl [1, 2, 0] rfl)
