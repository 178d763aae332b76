theorem mm_recvO {s : State} {G : mm_G} {A : Nat → Prop} {M : mm_M} {H : Heap} {locs : List Loc} {a n : Nat} {f : Nat → Option Nat} (hC : mm_C G A s) (hR : mm_R G s A M H locs) (ha : M a = some (oa G n f)) : ∃ cell : Cell, H[a]? = some cell ∧ cell.vm.isStatics = false ∧ s.vm.findClass "[Ljava/lang/Object;" = some cell.cls := by
  obtain ⟨⟨ws, hP, hD, hw⟩, hS⟩ := hR
  obtain ⟨i, hi⟩ := List.getElem?_of_mem ((hw _ _).mp ha)
  exact ⟨_, hP i _ hi, rfl, va_nmO (hC.1.2 2 (G.2.1.2.2, .object "java/lang/Object") rfl).2 rfl⟩
set_option maxHeartbeats 4000000 in
set_option maxRecDepth 100000 in
/-- newLength -/
theorem c_J8_newLength_cabcc (l : Launch) (G : mm_G) (M : mm_M) (sz : Nat) (cap : Nat)  (h0 : 1 ≤ cap) (hc : cap ≤ 100000) : mm_i l yJ8_newLength_cabcc wsJ8_newLength_cabcc ({ frames := 1, cells := 0, slots := 0, locals := 20 } : Room) G ([.int (nI cap), .int (nI 1), .int (nI (cap / 2))] : List Value) M sz (fun r M' => r = nI (cap + max 1 (cap / 2)) ∧ mm_fr [] M M') := by
  refine mm_enter (cc := cJ8_newLength_cabcc) (maxL := 4) (ret := (some .int)) _ (by decide) rfl (Nat.le_of_ble_eq_true rfl) ?_
  intro p0 e0 s m0 be0 me0 c0 ls S hr hlocks hname hA hC hR hl
  have hx := S.1
  have hb := S.2.1
  have hl : lv_has ls 4 [(0, .int (nI cap)), (1, .int (nI 1)), (2, .int (nI (cap / 2)))] := hl
  have hF : mm_fr [] M M := mm_fr.rf
  refine lv_iload_n hx hb dJ8_newLength_cabcc_0 rfl (lv_at hl 0 rfl) ?_
  refine lv_iload_n hx hb dJ8_newLength_cabcc_1 rfl (lv_at hl 1 rfl) ?_
  refine lv_iload_n hx hb dJ8_newLength_cabcc_2 rfl (lv_at hl 2 rfl) ?_
  refine mm_max (rest := [.int (nI cap)]) S hl.1 (by decide +kernel) (by decide +kernel) (by decide +kernel) (by decide +kernel) (Nat.le_of_ble_eq_true rfl) (Nat.le_of_ble_eq_true rfl) (Nat.zero_le _) (Nat.zero_le _) (x := 1) (y := (cap / 2)) (by omega) (by omega) dJ8_newLength_cabcc_3 ?_
  refine mm_eqi (congrArg nI (show max 1 (cap / 2) = max 1 (cap / 2) by omega)) ?_
  refine lv_iadd hx hb dJ8_newLength_cabcc_6 ?_
  refine mm_eqi (nI_add _ _) ?_
  refine lv_istore_n (lv' := [(3, .int (nI (cap + (max 1 (cap / 2))))), (0, .int (nI cap)), (1, .int (nI 1)), (2, .int (nI (cap / 2)))]) hx hb dJ8_newLength_cabcc_7 rfl hl (by decide) rfl (fun ls hl => ?_)
  refine lv_iconst (v := nI 0) hx hb dJ8_newLength_cabcc_8 (by decide) ?_
  refine lv_iload_n hx hb dJ8_newLength_cabcc_9 rfl (lv_at hl 0 rfl) ?_
  refine lv_icmp_ge (tgt := 21) hx hb dJ8_newLength_cabcc_10 (by decide) (fun c19 => ?_) (fun c19 => ?_)
  · have c19 : cap + (max 1 (cap / 2)) ≤ 0 := (nI_leI (a := cap + (max 1 (cap / 2))) (b := 0) (by omega) (by omega)).mp c19
    omega
  · have c19 : ¬ (cap + (max 1 (cap / 2)) ≤ 0) := fun z => c19 ((nI_leI (a := cap + (max 1 (cap / 2))) (b := 0) (by omega) (by omega)).mpr z)
    refine lv_iload_n hx hb dJ8_newLength_cabcc_13 rfl (lv_at hl 0 rfl) ?_
    refine lv_ldc (v := nI 2147483639) hx hb S.2.2.2.1 (S.2.2.2.2 (.constant RJ8 200 (nI 2147483639)) (by decide +kernel)) dJ8_newLength_cabcc_14 ?_
    refine lv_icmp_gt (tgt := 21) hx hb dJ8_newLength_cabcc_16 (by decide) (fun c20 => ?_) (fun c20 => ?_)
    · have c20 : 2147483639 < cap + (max 1 (cap / 2)) := (nI_ltI (a := 2147483639) (b := cap + (max 1 (cap / 2))) (by omega) (by omega)).mp c20
      omega
    · have c20 : ¬ (2147483639 < cap + (max 1 (cap / 2))) := fun z => c20 ((nI_ltI (a := 2147483639) (b := cap + (max 1 (cap / 2))) (by omega) (by omega)).mpr z)
      refine lv_iload_n hx hb dJ8_newLength_cabcc_19 rfl (lv_at hl 0 rfl) ?_
      exact mm_iret S hr hlocks hR ⟨rfl, hF⟩ dJ8_newLength_cabcc_20

set_option maxHeartbeats 4000000 in
set_option maxRecDepth 100000 in
/-- copyOf(row, n, kind) -/
theorem c_J7_copyOf_6403c (l : Launch) (G : mm_G) (M : mm_M) (sz : Nat) (E cap k : Nat) (f : Nat → Option Nat) (h2 : M E = some (oa G cap f)) (hk : cap ≤ k) (hk2 : k ≤ 1000) (hel : ∀ i, i < cap → ∀ y, f i = some y → ∃ fs, M y = some (ob 4 fs)) : mm_q l yJ7_copyOf_6403c wsJ7_copyOf_6403c ({ frames := 1, cells := 1, slots := 1000, locals := 30 } : Room) G ([.ref E, .int (nI k), .ref G.2.2.2.2.2] : List Value) M sz (fun r M' => ∃ q, r = some q ∧ M q = none ∧ M' q = some (oa G k (va_cpy f (fun _ => none) 0 0 cap)) ∧ mm_fr [] M M') := by
  refine mm_enter (cc := cJ7_copyOf_6403c) (maxL := 4) (ret := (some (.array (.object "java/lang/Object")))) _ (by decide) rfl (Nat.le_of_ble_eq_true rfl) ?_
  intro p0 e0 s m0 be0 me0 c0 ls S hr hlocks hname hA hC hR hl
  have hx := S.1
  have hb := S.2.1
  have hl : lv_has ls 4 [(0, .ref E), (1, .int (nI k)), (2, .ref G.2.2.2.2.2)] := hl
  have hF : mm_fr [] M M := mm_fr.rf
  refine lv_aload_n hx hb dJ7_copyOf_6403c_0 rfl (lv_at hl 2 rfl) ?_
  refine va_ldcM hx hb S.2.2.2.1 (S.2.2.2.2 (.classLink RJ7 110 "[Ljava/lang/Object;") (by decide +kernel)) hC.2.2.2.2.1.1 dJ7_copyOf_6403c_1 ?_
  refine lv_acmp_ne (rx := some G.2.2.2.2.2) (ry := some G.2.2.2.2.2) (tgt := 13) hx hb dJ7_copyOf_6403c_3 (by decide) (fun z => absurd rfl z) (fun _ => ?_)
  refine lv_iload_n hx hb dJ7_copyOf_6403c_6 rfl (lv_at hl 1 rfl) ?_
  refine mm_newob S hC hA hR (by decide +kernel) (n := k) (by omega) (Nat.le_of_ble_eq_true rfl) (by show 0 + k ≤ 1000; omega) dJ7_copyOf_6403c_7 (fun q H M21 z23 h3 f22 hR => ?_)
  have n_E_q : E ≠ q := mm_nenew h2 z23
  have nn_q : M q = none := hF.none z23 mm_o0
  have h2 := f22.at h2 mm_n0
  have h3 : M21 q = some (oa G k (fun _ => none)) := h3
  have hF := hF.tr f22 mm_i0
  refine lv_goto (tgt := 24) hx hb dJ7_copyOf_6403c_10 (by decide) ?_
  refine lv_astore_n (lv' := [(3, .ref q), (0, .ref E), (1, .int (nI k)), (2, .ref G.2.2.2.2.2)]) hx hb dJ7_copyOf_6403c_24 rfl hl (by decide) rfl (fun ls hl => ?_)
  refine lv_aload_n hx hb dJ7_copyOf_6403c_25 rfl (lv_at hl 1 rfl) ?_
  refine lv_iconst (v := nI 0) hx hb dJ7_copyOf_6403c_26 (by decide) ?_
  refine lv_aload_n hx hb dJ7_copyOf_6403c_27 rfl (lv_at hl 0 rfl) ?_
  refine lv_iconst (v := nI 0) hx hb dJ7_copyOf_6403c_28 (by decide) ?_
  refine lv_aload_n hx hb dJ7_copyOf_6403c_29 rfl (lv_at hl 1 rfl) ?_
  refine mm_olen S hC hR h2 dJ7_copyOf_6403c_30 ?_
  refine lv_iload_n hx hb dJ7_copyOf_6403c_31 rfl (lv_at hl 2 rfl) ?_
  refine mm_min (rest := [.int (nI 0), .ref q, .int (nI 0), .ref E]) S hl.1 (by decide +kernel) (by decide +kernel) (by decide +kernel) (by decide +kernel) (Nat.le_of_ble_eq_true rfl) (Nat.le_of_ble_eq_true rfl) (by show 0 + 1 ≤ 1; omega) (by show 0 + k ≤ 1000; omega) (x := cap) (y := k) (by omega) (by omega) dJ7_copyOf_6403c_32 ?_
  refine mm_eqi (congrArg nI (show min cap k = cap by omega)) ?_
  refine mm_copyo S hC hR hl.1 h2 h3 (by decide +kernel) (by decide +kernel) (by decide +kernel) (by decide +kernel) (sp := 0) (dp := 0) (n := cap) (by omega) (by omega) (by omega) (by omega) (fun i hi y hy => by rw [Nat.zero_add] at hy; obtain ⟨fs, z⟩ := hel i hi y hy; exact ⟨fs, hF.at z mm_n0⟩) (Nat.le_of_ble_eq_true rfl) (Nat.le_of_ble_eq_true rfl) dJ7_copyOf_6403c_35 (fun H locs M9 g9 f9 hR => ?_)
  have h2 := f9.at h2 (mm_nc n_E_q mm_n0)
  have h3 : M9 q = some (oa G k (va_cpy f (fun _ => none) 0 0 cap)) := g9
  have hF := hF.tr f9 (mm_in nn_q mm_i0)
  refine lv_aload_n hx hb dJ7_copyOf_6403c_38 rfl (lv_at hl 0 rfl) ?_
  refine W.widen (k := 1) (n := 1000) (by omega) (by omega) ?_
  exact mm_aret (v := some q) S hr (Or.inr ⟨_, rfl⟩) hlocks hR ⟨q, rfl, nn_q, h3, hF⟩ dJ7_copyOf_6403c_39

set_option maxHeartbeats 4000000 in
set_option maxRecDepth 100000 in
/-- copyOf(row, n) -/
theorem c_J7_copyOf_1904c (l : Launch) (G : mm_G) (M : mm_M) (sz : Nat) (E cap k : Nat) (f : Nat → Option Nat) (h2 : M E = some (oa G cap f)) (hk : cap ≤ k) (hk2 : k ≤ 1000) (hel : ∀ i, i < cap → ∀ y, f i = some y → ∃ fs, M y = some (ob 4 fs)) : mm_q l yJ7_copyOf_1904c wsJ7_copyOf_1904c ({ frames := 2, cells := 1, slots := 1000, locals := 60 } : Room) G ([.ref E, .int (nI k)] : List Value) M sz (fun r M' => ∃ q, r = some q ∧ M q = none ∧ M' q = some (oa G k (va_cpy f (fun _ => none) 0 0 cap)) ∧ mm_fr [] M M') := by
  refine mm_enter (cc := cJ7_copyOf_1904c) (maxL := 2) (ret := (some (.array (.object "java/lang/Object")))) _ (by decide) rfl (Nat.le_of_ble_eq_true rfl) ?_
  intro p0 e0 s m0 be0 me0 c0 ls S hr hlocks hname hA hC hR hl
  have hx := S.1
  have hb := S.2.1
  have hl : lv_has ls 2 [(0, .ref E), (1, .int (nI k))] := hl
  have hF : mm_fr [] M M := mm_fr.rf
  refine lv_aload_n hx hb dJ7_copyOf_1904c_0 rfl (lv_at hl 0 rfl) ?_
  refine lv_iload_n hx hb dJ7_copyOf_1904c_1 rfl (lv_at hl 1 rfl) ?_
  refine lv_aload_n hx hb dJ7_copyOf_1904c_2 rfl (lv_at hl 0 rfl) ?_
  refine va_getC (C := "[Ljava/lang/Object;") hx hb (by rw [S.2.2.1]; exact hl.1.symm) S.2.2.2.1 (S.2.2.2.2 _ (by decide +kernel)) (va_Dc.use hC.2.2.2.2.1.2.2.2.1) (S.2.2.2.2 _ (by decide +kernel)) (S.2.2.2.2 _ (by decide +kernel)) (S.2.2.2.2 _ (by decide +kernel)) hC.2.2.2.2.1.1 (mm_recvO hC hR h2) (Nat.le_of_ble_eq_true rfl) (Nat.le_of_ble_eq_true rfl) dJ7_copyOf_1904c_3 ?_
  refine mm_callq hA hR (va_runS (As := [.ref E, .int (nI k), .ref G.2.2.2.2.2]) (rest := []) S (c_J7_copyOf_6403c l G M _ E cap k f h2 hk hk2 hel) (va_cwS 3 S.2.2.2.2 gJ7_copyOf_1904c_J7_copyOf_6403c rfl rfl rfl (by decide +kernel) ⟨Nat.le_of_ble_eq_true rfl, Nat.le_of_ble_eq_true rfl⟩) (mm_preS hC hA hR _) rfl rfl hl.1 rfl (lv_room (Nat.le_of_ble_eq_true rfl)) dJ7_copyOf_1904c_6 ⟨Nat.le_of_ble_eq_true rfl, Nat.le_of_ble_eq_true rfl⟩) (fun r24 M25 H locs hp hR => ?_)
  obtain ⟨q, e1, y1, e2, ff⟩ := hp
  subst e1
  have h2 := ff.at h2 mm_n0
  have hF := hF.tr ff mm_i0
  exact mm_aret (v := some q) S hr (Or.inr ⟨_, rfl⟩) hlocks hR ⟨q, rfl, y1, e2, hF⟩ dJ7_copyOf_1904c_9

set_option maxHeartbeats 4000000 in
set_option maxRecDepth 100000 in
/-- grow(1) of an empty list -/
theorem c_grow1_first (l : Launch) (G : mm_G) (M : mm_M) (sz : Nat) (Ls : Nat) (mc : Int32) (h1 : M Ls = some (ob 0 [.int mc, .ref G.2.2.2.2.1, .int (nI 0)]))  : mm_q l yJx4a65c_grow_92f84 wsJx4a65c_grow_92f84 ({ frames := 3, cells := 1, slots := 1000, locals := 90 } : Room) G ([.ref Ls, .int (nI 1)] : List Value) M sz (fun r M' => ∃ q, r = some q ∧ M q = none ∧ M' q = some (oa G 10 (fun _ => none)) ∧ M' Ls = some (ob 0 [.int mc, .ref q, .int (nI 0)]) ∧ mm_fr [Ls] M M') := by
  refine mm_enter (cc := cJx4a65c_grow_92f84) (maxL := 4) (ret := (some (.array (.object "java/lang/Object")))) _ (by decide) rfl (Nat.le_of_ble_eq_true rfl) ?_
  intro p0 e0 s m0 be0 me0 c0 ls S hr hlocks hname hA hC hR hl
  have hx := S.1
  have hb := S.2.1
  have hl : lv_has ls 4 [(0, .ref Ls), (1, .int (nI 1))] := hl
  have inRJx4a65c : ∀ w ∈ wsJx4a65c0, w ∈ wsJx4a65c_grow_92f84 := by decide +kernel
  have hF : mm_fr [Ls] M M := mm_fr.rf
  refine lv_aload_n hx hb dJx4a65c_grow_92f84_0 rfl (lv_at hl 0 rfl) ?_
  refine mm_get S hC hR (C := RJx4a65c) (T := TJx4a65c) (N := 3) (ref := "java/util/ArrayList") (v := .ref G.2.2.2.2.1) 1 h1 inRJx4a65c rfl (by decide) (by decide +kernel) (fun _ h9 => h9) rfl dJx4a65c_grow_92f84_1 ?_
  refine mm_lempty S hC hR dJx4a65c_grow_92f84_4 ?_
  refine lv_istore_n (lv' := [(2, .int (nI 0)), (0, .ref Ls), (1, .int (nI 1))]) hx hb dJx4a65c_grow_92f84_5 rfl hl (by decide) rfl (fun ls hl => ?_)
  refine lv_iload_n hx hb dJx4a65c_grow_92f84_6 rfl (lv_at hl 0 rfl) ?_
  refine lv_if_gt (tgt := 20) hx hb dJx4a65c_grow_92f84_7 (by decide) (fun c26 => ?_) (fun c26 => ?_)
  · have c26 : 0 < 0 := (nI_ltI (a := 0) (b := 0) (by omega) (by omega)).mp c26
    omega
  · have c26 : ¬ (0 < 0) := fun z => c26 ((nI_ltI (a := 0) (b := 0) (by omega) (by omega)).mpr z)
    refine lv_aload_n hx hb dJx4a65c_grow_92f84_10 rfl (lv_at hl 1 rfl) ?_
    refine mm_get S hC hR (C := RJx4a65c) (T := TJx4a65c) (N := 3) (ref := "java/util/ArrayList") (v := .ref G.2.2.2.2.1) 1 h1 inRJx4a65c rfl (by decide) (by decide +kernel) (fun _ h9 => h9) rfl dJx4a65c_grow_92f84_11 ?_
    refine mm_gempty S hC hR (by decide +kernel) dJx4a65c_grow_92f84_14 ?_
    refine lv_acmp_eq (rx := some G.2.2.2.2.1) (ry := some G.2.2.2.2.1) (tgt := 45) hx hb dJx4a65c_grow_92f84_17 (by decide) (fun _ => ?_) (fun z => absurd rfl z)
    refine lv_aload_n hx hb dJx4a65c_grow_92f84_45 rfl (lv_at hl 1 rfl) ?_
    refine lv_bipush (v := nI 10) hx hb dJx4a65c_grow_92f84_46 (by decide) ?_
    refine lv_iload_n hx hb dJx4a65c_grow_92f84_48 rfl (lv_at hl 2 rfl) ?_
    refine mm_max (rest := [.ref Ls]) S hl.1 (by decide +kernel) (by decide +kernel) (by decide +kernel) (by decide +kernel) (Nat.le_of_ble_eq_true rfl) (Nat.le_of_ble_eq_true rfl) (Nat.zero_le _) (Nat.zero_le _) (x := 10) (y := 1) (by omega) (by omega) dJx4a65c_grow_92f84_49 ?_
    refine mm_eqi (congrArg nI (show max 10 1 = 10 by omega)) ?_
    refine mm_newob S hC hA hR (by decide +kernel) (n := 10) (by omega) (Nat.le_of_ble_eq_true rfl) (Nat.le_of_ble_eq_true rfl) dJx4a65c_grow_92f84_52 (fun q H M27 z29 h3 f28 hR => ?_)
    have n_Ls_q : Ls ≠ q := mm_nenew h1 z29
    have nn_q : M q = none := hF.none z29 (mm_oc h1 mm_o0)
    have h1 := f28.at h1 mm_n0
    have h3 : M27 q = some (oa G 10 (fun _ => none)) := h3
    have hF := hF.tr f28 mm_i0
    refine lv_dup_x1 hx hb dJx4a65c_grow_92f84_55 rfl rfl ?_
    refine mm_put S hC hR (C := RJx4a65c) (T := TJx4a65c) (N := 3) (ref := "java/util/ArrayList") 1 h1 inRJx4a65c rfl tyJx4a65c_ok nmJx4a65c (by decide) (by decide +kernel) (fun _ h9 => h9) rfl rfl rfl (Nat.le_of_ble_eq_true rfl) dJx4a65c_grow_92f84_56 (fun H locs M30 g32 f31 hR => ?_)
    have h3 := f31.at h3 (mm_nc (Ne.symm n_Ls_q) mm_n0)
    have h1 : M30 Ls = some (ob 0 [.int mc, .ref q, .int (nI 0)]) := g32
    have hF := hF.tr f31 (mm_ic 0 rfl mm_i0)
    refine W.widen (k := 1) (n := 1000) (by omega) (by omega) ?_
    exact mm_aret (v := some q) S hr (Or.inr ⟨_, rfl⟩) hlocks hR ⟨q, rfl, nn_q, h3, h1, hF⟩ dJx4a65c_grow_92f84_59

set_option maxHeartbeats 4000000 in
set_option maxRecDepth 100000 in
/-- grow(n + 1) of a full list -/
theorem c_grow1_full (l : Launch) (G : mm_G) (M : mm_M) (sz : Nat) (Ls E cap : Nat) (mc : Int32) (f : Nat → Option Nat) (h1 : M Ls = some (ob 0 [.int mc, .ref E, .int (nI cap)])) (h2 : M E = some (oa G cap f)) (h0 : 1 ≤ cap) (hc : cap ≤ 600) (hel : ∀ i, i < cap → ∀ y, f i = some y → ∃ fs, M y = some (ob 4 fs)) : mm_q l yJx4a65c_grow_92f84 wsJx4a65c_grow_92f84 ({ frames := 3, cells := 1, slots := 1000, locals := 90 } : Room) G ([.ref Ls, .int (nI (cap + 1))] : List Value) M sz (fun r M' => ∃ q, r = some q ∧ M q = none ∧ M' q = some (oa G (cap + max 1 (cap / 2)) (va_cpy f (fun _ => none) 0 0 cap)) ∧ M' Ls = some (ob 0 [.int mc, .ref q, .int (nI cap)]) ∧ mm_fr [Ls] M M') := by
  refine mm_enter (cc := cJx4a65c_grow_92f84) (maxL := 4) (ret := (some (.array (.object "java/lang/Object")))) _ (by decide) rfl (Nat.le_of_ble_eq_true rfl) ?_
  intro p0 e0 s m0 be0 me0 c0 ls S hr hlocks hname hA hC hR hl
  have hx := S.1
  have hb := S.2.1
  have hl : lv_has ls 4 [(0, .ref Ls), (1, .int (nI (cap + 1)))] := hl
  have inRJx4a65c : ∀ w ∈ wsJx4a65c0, w ∈ wsJx4a65c_grow_92f84 := by decide +kernel
  have hF : mm_fr [Ls] M M := mm_fr.rf
  refine lv_aload_n hx hb dJx4a65c_grow_92f84_0 rfl (lv_at hl 0 rfl) ?_
  refine mm_get S hC hR (C := RJx4a65c) (T := TJx4a65c) (N := 3) (ref := "java/util/ArrayList") (v := .ref E) 1 h1 inRJx4a65c rfl (by decide) (by decide +kernel) (fun _ h9 => h9) rfl dJx4a65c_grow_92f84_1 ?_
  refine mm_olen S hC hR h2 dJx4a65c_grow_92f84_4 ?_
  refine lv_istore_n (lv' := [(2, .int (nI cap)), (0, .ref Ls), (1, .int (nI (cap + 1)))]) hx hb dJx4a65c_grow_92f84_5 rfl hl (by decide) rfl (fun ls hl => ?_)
  refine lv_iload_n hx hb dJx4a65c_grow_92f84_6 rfl (lv_at hl 0 rfl) ?_
  refine lv_if_gt (tgt := 20) hx hb dJx4a65c_grow_92f84_7 (by decide) (fun c33 => ?_) (fun c33 => ?_)
  · have c33 : 0 < cap := (nI_ltI (a := 0) (b := cap) (by omega) (by omega)).mp c33
    refine lv_iload_n hx hb dJx4a65c_grow_92f84_20 rfl (lv_at hl 0 rfl) ?_
    refine lv_iload_n hx hb dJx4a65c_grow_92f84_21 rfl (lv_at hl 2 rfl) ?_
    refine lv_iload_n hx hb dJx4a65c_grow_92f84_22 rfl (lv_at hl 0 rfl) ?_
    refine lv_isub hx hb dJx4a65c_grow_92f84_23 ?_
    refine mm_eqi (pk_sub (by omega)) ?_
    refine mm_eqi (congrArg nI (show (cap + 1) - cap = 1 by omega)) ?_
    refine lv_iload_n hx hb dJx4a65c_grow_92f84_24 rfl (lv_at hl 0 rfl) ?_
    refine lv_iconst (v := nI 1) hx hb dJx4a65c_grow_92f84_25 (by decide) ?_
    refine lv_ishr hx hb dJx4a65c_grow_92f84_26 ?_
    refine mm_eqi (pk_shrN (by omega) _ 1 (by decide)) ?_
    refine mm_eqi (congrArg nI (show cap / 2 ^ 1 = cap / 2 by omega)) ?_
    refine mm_calli hA hR (va_runS (As := [.int (nI cap), .int (nI 1), .int (nI (cap / 2))]) (rest := []) S (c_J8_newLength_cabcc l G M _ cap h0 (by omega)) (va_cwS 3 S.2.2.2.2 gJx4a65c_grow_92f84_J8_newLength_cabcc rfl rfl rfl (by decide +kernel) ⟨Nat.le_of_ble_eq_true rfl, Nat.le_of_ble_eq_true rfl⟩) (mm_preS hC hA hR _) rfl rfl hl.1 rfl (lv_room (Nat.le_of_ble_eq_true rfl)) dJx4a65c_grow_92f84_27 ⟨Nat.le_of_ble_eq_true rfl, Nat.le_of_ble_eq_true rfl⟩) (fun r34 M35 H locs hp hR => ?_)
    obtain ⟨e1, ff⟩ := hp
    subst e1
    have h1 := ff.at h1 mm_n0
    have h2 := ff.at h2 mm_n0
    have hF := hF.tr ff mm_i0
    refine lv_istore_n (lv' := [(3, .int (nI (cap + max 1 (cap / 2)))), (2, .int (nI cap)), (0, .ref Ls), (1, .int (nI (cap + 1)))]) hx hb dJx4a65c_grow_92f84_30 rfl hl (by decide) rfl (fun ls hl => ?_)
    refine lv_aload_n hx hb dJx4a65c_grow_92f84_31 rfl (lv_at hl 2 rfl) ?_
    refine lv_aload_n hx hb dJx4a65c_grow_92f84_32 rfl (lv_at hl 2 rfl) ?_
    refine mm_get S hC hR (C := RJx4a65c) (T := TJx4a65c) (N := 3) (ref := "java/util/ArrayList") (v := .ref E) 1 h1 inRJx4a65c rfl (by decide) (by decide +kernel) (fun _ h9 => h9) rfl dJx4a65c_grow_92f84_33 ?_
    refine lv_iload_n hx hb dJx4a65c_grow_92f84_36 rfl (lv_at hl 0 rfl) ?_
    refine mm_callq hA hR (va_runS (As := [.ref E, .int (nI (cap + max 1 (cap / 2)))]) (rest := [.ref Ls]) S (c_J7_copyOf_1904c l G M35 _ E cap (cap + max 1 (cap / 2)) f h2 (by omega) (by omega) (fun i hi y hy => by obtain ⟨fs, z⟩ := hel i hi y hy; exact ⟨fs, ff.at z mm_n0⟩)) (va_cwS 2 S.2.2.2.2 gJx4a65c_grow_92f84_J7_copyOf_1904c rfl rfl rfl (by decide +kernel) ⟨Nat.le_of_ble_eq_true rfl, Nat.le_of_ble_eq_true rfl⟩) (mm_preS hC hA hR _) rfl rfl hl.1 rfl (lv_room (Nat.le_of_ble_eq_true rfl)) dJx4a65c_grow_92f84_37 ⟨Nat.le_of_ble_eq_true rfl, Nat.le_of_ble_eq_true rfl⟩) (fun r36 M37 H locs hp hR => ?_)
    obtain ⟨q, e1, y1, e2, ff⟩ := hp
    subst e1
    have n_Ls_q : Ls ≠ q := mm_nenew h1 y1
    have n_E_q : E ≠ q := mm_nenew h2 y1
    have nn_q : M q = none := hF.none y1 (mm_oc h1 mm_o0)
    have h1 := ff.at h1 mm_n0
    have h2 := ff.at h2 mm_n0
    have h3 : M37 q = some (oa G (cap + max 1 (cap / 2)) (va_cpy f (fun _ => none) 0 0 cap)) := e2
    have hF := hF.tr ff mm_i0
    refine lv_dup_x1 hx hb dJx4a65c_grow_92f84_40 rfl rfl ?_
    refine mm_put S hC hR (C := RJx4a65c) (T := TJx4a65c) (N := 3) (ref := "java/util/ArrayList") 1 h1 inRJx4a65c rfl tyJx4a65c_ok nmJx4a65c (by decide) (by decide +kernel) (fun _ h9 => h9) rfl rfl rfl (Nat.le_of_ble_eq_true rfl) dJx4a65c_grow_92f84_41 (fun H locs M38 g40 f39 hR => ?_)
    have h2 := f39.at h2 (mm_nc (Ne.symm (mm_neoi h1 h2)) mm_n0)
    have h3 := f39.at h3 (mm_nc (Ne.symm n_Ls_q) mm_n0)
    have h1 : M38 Ls = some (ob 0 [.int mc, .ref q, .int (nI cap)]) := g40
    have hF := hF.tr f39 (mm_ic 0 rfl mm_i0)
    exact mm_aret (v := some q) S hr (Or.inr ⟨_, rfl⟩) hlocks hR ⟨q, rfl, nn_q, h3, h1, hF⟩ dJx4a65c_grow_92f84_44
  · have c33 : ¬ (0 < cap) := fun z => c33 ((nI_ltI (a := 0) (b := cap) (by omega) (by omega)).mpr z)
    omega

set_option maxHeartbeats 4000000 in
set_option maxRecDepth 100000 in
theorem c_grow0_first (l : Launch) (G : mm_G) (M : mm_M) (sz : Nat) (Ls : Nat) (mc : Int32) (h1 : M Ls = some (ob 0 [.int mc, .ref G.2.2.2.2.1, .int (nI 0)]))  : mm_q l yJx4a65c_grow_d5877 wsJx4a65c_grow_d5877 ({ frames := 4, cells := 1, slots := 1000, locals := 120 } : Room) G ([.ref Ls] : List Value) M sz (fun r M' => ∃ q, r = some q ∧ M q = none ∧ M' q = some (oa G 10 (fun _ => none)) ∧ M' Ls = some (ob 0 [.int mc, .ref q, .int (nI 0)]) ∧ mm_fr [Ls] M M') := by
  refine mm_enter (cc := cJx4a65c_grow_d5877) (maxL := 1) (ret := (some (.array (.object "java/lang/Object")))) _ (by decide) rfl (Nat.le_of_ble_eq_true rfl) ?_
  intro p0 e0 s m0 be0 me0 c0 ls S hr hlocks hname hA hC hR hl
  have hx := S.1
  have hb := S.2.1
  have hl : lv_has ls 1 [(0, .ref Ls)] := hl
  have inRJx4a65c : ∀ w ∈ wsJx4a65c0, w ∈ wsJx4a65c_grow_d5877 := by decide +kernel
  have hF : mm_fr [Ls] M M := mm_fr.rf
  refine lv_aload_n hx hb dJx4a65c_grow_d5877_0 rfl (lv_at hl 0 rfl) ?_
  refine lv_aload_n hx hb dJx4a65c_grow_d5877_1 rfl (lv_at hl 0 rfl) ?_
  refine mm_get S hC hR (C := RJx4a65c) (T := TJx4a65c) (N := 3) (ref := "java/util/ArrayList") (v := .int (nI 0)) 2 h1 inRJx4a65c rfl (by decide) (by decide +kernel) (fun _ h9 => h9) rfl dJx4a65c_grow_d5877_2 ?_
  refine lv_iconst (v := nI 1) hx hb dJx4a65c_grow_d5877_5 (by decide) ?_
  refine lv_iadd hx hb dJx4a65c_grow_d5877_6 ?_
  refine mm_eqi (show nI 0 + nI 1 = nI 1 from by decide) ?_
  refine mm_callq hA hR (va_runV (As := [.int (nI 1)]) (rest := []) S (c_grow1_first l G M _ Ls mc h1) (cwV 1 S.2.2.2.2 gJx4a65c_grow_d5877_Jx4a65c_grow_92f84 rfl rfl rfl (by decide +kernel) ⟨Nat.le_of_ble_eq_true rfl, Nat.le_of_ble_eq_true rfl⟩) (mm_preV hC hA hR _ h1 rfl) rfl rfl hl.1 rfl (lv_room (Nat.le_of_ble_eq_true rfl)) dJx4a65c_grow_d5877_7 ⟨Nat.le_of_ble_eq_true rfl, Nat.le_of_ble_eq_true rfl⟩) (fun r41 M42 H locs hp hR => ?_)
  obtain ⟨q, e1, y1, e2, e3, ff⟩ := hp
  subst e1
  have hF := hF.tr ff (mm_ic 0 rfl mm_i0)
  exact mm_aret (v := some q) S hr (Or.inr ⟨_, rfl⟩) hlocks hR ⟨q, rfl, y1, e2, e3, hF⟩ dJx4a65c_grow_d5877_10

set_option maxHeartbeats 4000000 in
set_option maxRecDepth 100000 in
theorem c_grow0_full (l : Launch) (G : mm_G) (M : mm_M) (sz : Nat) (Ls E cap : Nat) (mc : Int32) (f : Nat → Option Nat) (h1 : M Ls = some (ob 0 [.int mc, .ref E, .int (nI cap)])) (h2 : M E = some (oa G cap f)) (h0 : 1 ≤ cap) (hc : cap ≤ 600) (hel : ∀ i, i < cap → ∀ y, f i = some y → ∃ fs, M y = some (ob 4 fs)) : mm_q l yJx4a65c_grow_d5877 wsJx4a65c_grow_d5877 ({ frames := 4, cells := 1, slots := 1000, locals := 120 } : Room) G ([.ref Ls] : List Value) M sz (fun r M' => ∃ q, r = some q ∧ M q = none ∧ M' q = some (oa G (cap + max 1 (cap / 2)) (va_cpy f (fun _ => none) 0 0 cap)) ∧ M' Ls = some (ob 0 [.int mc, .ref q, .int (nI cap)]) ∧ mm_fr [Ls] M M') := by
  refine mm_enter (cc := cJx4a65c_grow_d5877) (maxL := 1) (ret := (some (.array (.object "java/lang/Object")))) _ (by decide) rfl (Nat.le_of_ble_eq_true rfl) ?_
  intro p0 e0 s m0 be0 me0 c0 ls S hr hlocks hname hA hC hR hl
  have hx := S.1
  have hb := S.2.1
  have hl : lv_has ls 1 [(0, .ref Ls)] := hl
  have inRJx4a65c : ∀ w ∈ wsJx4a65c0, w ∈ wsJx4a65c_grow_d5877 := by decide +kernel
  have hF : mm_fr [Ls] M M := mm_fr.rf
  refine lv_aload_n hx hb dJx4a65c_grow_d5877_0 rfl (lv_at hl 0 rfl) ?_
  refine lv_aload_n hx hb dJx4a65c_grow_d5877_1 rfl (lv_at hl 0 rfl) ?_
  refine mm_get S hC hR (C := RJx4a65c) (T := TJx4a65c) (N := 3) (ref := "java/util/ArrayList") (v := .int (nI cap)) 2 h1 inRJx4a65c rfl (by decide) (by decide +kernel) (fun _ h9 => h9) rfl dJx4a65c_grow_d5877_2 ?_
  refine lv_iconst (v := nI 1) hx hb dJx4a65c_grow_d5877_5 (by decide) ?_
  refine lv_iadd hx hb dJx4a65c_grow_d5877_6 ?_
  refine mm_eqi (nI_add _ _) ?_
  refine mm_callq hA hR (va_runV (As := [.int (nI (cap + 1))]) (rest := []) S (c_grow1_full l G M _ Ls E cap mc f h1 h2 h0 hc hel) (cwV 1 S.2.2.2.2 gJx4a65c_grow_d5877_Jx4a65c_grow_92f84 rfl rfl rfl (by decide +kernel) ⟨Nat.le_of_ble_eq_true rfl, Nat.le_of_ble_eq_true rfl⟩) (mm_preV hC hA hR _ h1 rfl) rfl rfl hl.1 rfl (lv_room (Nat.le_of_ble_eq_true rfl)) dJx4a65c_grow_d5877_7 ⟨Nat.le_of_ble_eq_true rfl, Nat.le_of_ble_eq_true rfl⟩) (fun r43 M44 H locs hp hR => ?_)
  obtain ⟨q, e1, y1, e2, e3, ff⟩ := hp
  subst e1
  have hF := hF.tr ff (mm_ic 0 rfl mm_i0)
  exact mm_aret (v := some q) S hr (Or.inr ⟨_, rfl⟩) hlocks hR ⟨q, rfl, y1, e2, e3, hF⟩ dJx4a65c_grow_d5877_10

set_option maxHeartbeats 4000000 in
set_option maxRecDepth 100000 in
theorem c_add1_4_lo (l : Launch) (G : mm_G) (M : mm_M) (sz : Nat) (Ls E n cap v : Nat) (mc : Int32) (f : Nat → Option Nat) (fs : List Value) (h1 : M Ls = some (ob 0 [.int mc, .ref E, .int (nI n)])) (h2 : M E = some (oa G cap f)) (hv : M v = some (ob 4 fs)) (hn : n < cap) (hcap : cap ≤ 1000) : mm_v l yJx4a65c_add_72be8 wsJx4a65c_add_72be8 ({ frames := 5, cells := 1, slots := 1000, locals := 150 } : Room) G ([.ref Ls, .ref v, .ref E, .int (nI n)] : List Value) M sz (fun M' => M' E = some (oa G cap (va_up f n (some v))) ∧ M' Ls = some (ob 0 [.int mc, .ref E, .int (nI (n + 1))]) ∧ mm_fr [Ls, E] M M') := by
  refine mm_enter (cc := cJx4a65c_add_72be8) (maxL := 4) (ret := none) _ (by decide) rfl (Nat.le_of_ble_eq_true rfl) ?_
  intro p0 e0 s m0 be0 me0 c0 ls S hr hlocks hname hA hC hR hl
  have hx := S.1
  have hb := S.2.1
  have hl : lv_has ls 4 [(0, .ref Ls), (1, .ref v), (2, .ref E), (3, .int (nI n))] := hl
  have inRJx4a65c : ∀ w ∈ wsJx4a65c0, w ∈ wsJx4a65c_add_72be8 := by decide +kernel
  have hF : mm_fr [Ls, E] M M := mm_fr.rf
  refine lv_iload_n hx hb dJx4a65c_add_72be8_0 rfl (lv_at hl 3 rfl) ?_
  refine lv_aload_n hx hb dJx4a65c_add_72be8_1 rfl (lv_at hl 2 rfl) ?_
  refine mm_olen S hC hR h2 dJx4a65c_add_72be8_2 ?_
  refine lv_icmp_ne (tgt := 11) hx hb dJx4a65c_add_72be8_3 (by decide) (fun c45 => ?_) (fun c45 => ?_)
  · have c45 : n ≠ cap := fun z => c45 (congrArg nI z)
    refine lv_aload_n hx hb dJx4a65c_add_72be8_11 rfl (lv_at hl 2 rfl) ?_
    refine lv_iload_n hx hb dJx4a65c_add_72be8_12 rfl (lv_at hl 3 rfl) ?_
    refine lv_aload_n hx hb dJx4a65c_add_72be8_13 rfl (lv_at hl 1 rfl) ?_
    refine mm_oast S hC hR h2 hv rfl hC.2.2.2.2.1.2.2.1.2 (j := n) (by omega) (by omega) dJx4a65c_add_72be8_14 (fun H locs M8 g8 f8 hR => ?_)
    have h1 := f8.at h1 (mm_nc (mm_neoi h1 h2) mm_n0)
    have h2 : M8 E = some (oa G cap (va_up f n (some v))) := g8
    have hF := hF.tr f8 (mm_ic 1 rfl mm_i0)
    refine lv_aload_n hx hb dJx4a65c_add_72be8_15 rfl (lv_at hl 0 rfl) ?_
    refine lv_iload_n hx hb dJx4a65c_add_72be8_16 rfl (lv_at hl 3 rfl) ?_
    refine lv_iconst (v := nI 1) hx hb dJx4a65c_add_72be8_17 (by decide) ?_
    refine lv_iadd hx hb dJx4a65c_add_72be8_18 ?_
    refine mm_eqi (nI_add _ _) ?_
    refine mm_put S hC hR (C := RJx4a65c) (T := TJx4a65c) (N := 3) (ref := "java/util/ArrayList") 2 h1 inRJx4a65c rfl tyJx4a65c_ok nmJx4a65c (by decide) (by decide +kernel) (fun _ h9 => h9) rfl rfl rfl (Nat.le_of_ble_eq_true rfl) dJx4a65c_add_72be8_19 (fun H locs M46 g48 f47 hR => ?_)
    have h2 := f47.at h2 (mm_nc (Ne.symm (mm_neoi h1 h2)) mm_n0)
    have h1 : M46 Ls = some (ob 0 [.int mc, .ref E, .int (nI (n + 1))]) := g48
    have hF := hF.tr f47 (mm_ic 0 rfl mm_i0)
    refine W.widen (k := 1) (n := 1000) (by omega) (by omega) ?_
    exact mm_vret S hr hlocks hR ⟨h2, h1, hF⟩ dJx4a65c_add_72be8_22
  · have c45 : n = cap := (nI_eq (a := n) (b := cap) (by omega) (by omega)).mp c45
    omega

set_option maxHeartbeats 4000000 in
set_option maxRecDepth 100000 in
theorem c_add1_4_first (l : Launch) (G : mm_G) (M : mm_M) (sz : Nat) (Ls v : Nat) (mc : Int32) (fs : List Value) (h1 : M Ls = some (ob 0 [.int mc, .ref G.2.2.2.2.1, .int (nI 0)])) (hv : M v = some (ob 4 fs)) : mm_v l yJx4a65c_add_72be8 wsJx4a65c_add_72be8 ({ frames := 5, cells := 1, slots := 1000, locals := 150 } : Room) G ([.ref Ls, .ref v, .ref G.2.2.2.2.1, .int (nI 0)] : List Value) M sz (fun M' => ∃ q, M q = none ∧ M' q = some (oa G 10 (va_up (fun _ => none) 0 (some v))) ∧ M' Ls = some (ob 0 [.int mc, .ref q, .int (nI 1)]) ∧ mm_fr [Ls] M M') := by
  refine mm_enter (cc := cJx4a65c_add_72be8) (maxL := 4) (ret := none) _ (by decide) rfl (Nat.le_of_ble_eq_true rfl) ?_
  intro p0 e0 s m0 be0 me0 c0 ls S hr hlocks hname hA hC hR hl
  have hx := S.1
  have hb := S.2.1
  have hl : lv_has ls 4 [(0, .ref Ls), (1, .ref v), (2, .ref G.2.2.2.2.1), (3, .int (nI 0))] := hl
  have inRJx4a65c : ∀ w ∈ wsJx4a65c0, w ∈ wsJx4a65c_add_72be8 := by decide +kernel
  have hF : mm_fr [Ls] M M := mm_fr.rf
  have n_v_Ls : v ≠ Ls := mm_neoo hv h1 (by decide)
  refine lv_iload_n hx hb dJx4a65c_add_72be8_0 rfl (lv_at hl 3 rfl) ?_
  refine lv_aload_n hx hb dJx4a65c_add_72be8_1 rfl (lv_at hl 2 rfl) ?_
  refine mm_lempty S hC hR dJx4a65c_add_72be8_2 ?_
  refine lv_icmp_ne (tgt := 11) hx hb dJx4a65c_add_72be8_3 (by decide) (fun c49 => ?_) (fun c49 => ?_)
  · have c49 : 0 ≠ 0 := fun z => c49 (congrArg nI z)
    omega
  · have c49 : 0 = 0 := (nI_eq (a := 0) (b := 0) (by omega) (by omega)).mp c49
    refine lv_aload_n hx hb dJx4a65c_add_72be8_6 rfl (lv_at hl 0 rfl) ?_
    refine mm_callq hA hR (va_runV (As := []) (rest := []) S (c_grow0_first l G M _ Ls mc h1) (cwV 0 S.2.2.2.2 gJx4a65c_add_72be8_Jx4a65c_grow_d5877 rfl rfl rfl (by decide +kernel) ⟨Nat.le_of_ble_eq_true rfl, Nat.le_of_ble_eq_true rfl⟩) (mm_preV hC hA hR _ h1 rfl) rfl rfl hl.1 rfl (lv_room (Nat.le_of_ble_eq_true rfl)) dJx4a65c_add_72be8_7 ⟨Nat.le_of_ble_eq_true rfl, Nat.le_of_ble_eq_true rfl⟩) (fun r50 M51 H locs hp hR => ?_)
    obtain ⟨q, e1, y1, e2, e3, ff⟩ := hp
    subst e1
    have hv := ff.at hv (mm_nc n_v_Ls mm_n0)
    have n_Ls_q : Ls ≠ q := mm_nenew h1 y1
    have h1 : M51 Ls = some (ob 0 [.int mc, .ref q, .int (nI 0)]) := e3
    have h2 : M51 q = some (oa G 10 (fun _ => none)) := e2
    have hF := hF.tr ff (mm_ic 0 rfl mm_i0)
    refine lv_astore_n (lv' := [(2, .ref q), (0, .ref Ls), (1, .ref v), (3, .int (nI 0))]) hx hb dJx4a65c_add_72be8_10 rfl hl (by decide) rfl (fun ls hl => ?_)
    refine lv_aload_n hx hb dJx4a65c_add_72be8_11 rfl (lv_at hl 0 rfl) ?_
    refine lv_iload_n hx hb dJx4a65c_add_72be8_12 rfl (lv_at hl 3 rfl) ?_
    refine lv_aload_n hx hb dJx4a65c_add_72be8_13 rfl (lv_at hl 2 rfl) ?_
    refine mm_oast S hC hR h2 hv rfl hC.2.2.2.2.1.2.2.1.2 (j := 0) (by omega) (by omega) dJx4a65c_add_72be8_14 (fun H locs M8 g8 f8 hR => ?_)
    have h1 := f8.at h1 (mm_nc n_Ls_q mm_n0)
    have h2 : M8 q = some (oa G 10 (va_up (fun _ => none) 0 (some v))) := g8
    have hF := hF.tr f8 (mm_in y1 mm_i0)
    refine lv_aload_n hx hb dJx4a65c_add_72be8_15 rfl (lv_at hl 1 rfl) ?_
    refine lv_iload_n hx hb dJx4a65c_add_72be8_16 rfl (lv_at hl 3 rfl) ?_
    refine lv_iconst (v := nI 1) hx hb dJx4a65c_add_72be8_17 (by decide) ?_
    refine lv_iadd hx hb dJx4a65c_add_72be8_18 ?_
    refine mm_eqi (show nI 0 + nI 1 = nI 1 from by decide) ?_
    refine mm_put S hC hR (C := RJx4a65c) (T := TJx4a65c) (N := 3) (ref := "java/util/ArrayList") 2 h1 inRJx4a65c rfl tyJx4a65c_ok nmJx4a65c (by decide) (by decide +kernel) (fun _ h9 => h9) rfl rfl rfl (Nat.le_of_ble_eq_true rfl) dJx4a65c_add_72be8_19 (fun H locs M52 g54 f53 hR => ?_)
    have h2 := f53.at h2 (mm_nc (Ne.symm n_Ls_q) mm_n0)
    have h1 : M52 Ls = some (ob 0 [.int mc, .ref q, .int (nI 1)]) := g54
    have hF := hF.tr f53 (mm_ic 0 rfl mm_i0)
    exact mm_vret S hr hlocks hR ⟨q, y1, h2, h1, hF⟩ dJx4a65c_add_72be8_22

set_option maxHeartbeats 4000000 in
set_option maxRecDepth 100000 in
theorem c_add1_8_lo (l : Launch) (G : mm_G) (M : mm_M) (sz : Nat) (Ls E n cap v : Nat) (mc : Int32) (f : Nat → Option Nat) (fs : List Value) (h1 : M Ls = some (ob 0 [.int mc, .ref E, .int (nI n)])) (h2 : M E = some (oa G cap f)) (hv : M v = some (ob 8 fs)) (hn : n < cap) (hcap : cap ≤ 1000) : mm_v l yJx4a65c_add_72be8 wsJx4a65c_add_72be8 ({ frames := 5, cells := 1, slots := 1000, locals := 150 } : Room) G ([.ref Ls, .ref v, .ref E, .int (nI n)] : List Value) M sz (fun M' => M' E = some (oa G cap (va_up f n (some v))) ∧ M' Ls = some (ob 0 [.int mc, .ref E, .int (nI (n + 1))]) ∧ mm_fr [Ls, E] M M') := by
  refine mm_enter (cc := cJx4a65c_add_72be8) (maxL := 4) (ret := none) _ (by decide) rfl (Nat.le_of_ble_eq_true rfl) ?_
  intro p0 e0 s m0 be0 me0 c0 ls S hr hlocks hname hA hC hR hl
  have hx := S.1
  have hb := S.2.1
  have hl : lv_has ls 4 [(0, .ref Ls), (1, .ref v), (2, .ref E), (3, .int (nI n))] := hl
  have inRJx4a65c : ∀ w ∈ wsJx4a65c0, w ∈ wsJx4a65c_add_72be8 := by decide +kernel
  have hF : mm_fr [Ls, E] M M := mm_fr.rf
  refine lv_iload_n hx hb dJx4a65c_add_72be8_0 rfl (lv_at hl 3 rfl) ?_
  refine lv_aload_n hx hb dJx4a65c_add_72be8_1 rfl (lv_at hl 2 rfl) ?_
  refine mm_olen S hC hR h2 dJx4a65c_add_72be8_2 ?_
  refine lv_icmp_ne (tgt := 11) hx hb dJx4a65c_add_72be8_3 (by decide) (fun c55 => ?_) (fun c55 => ?_)
  · have c55 : n ≠ cap := fun z => c55 (congrArg nI z)
    refine lv_aload_n hx hb dJx4a65c_add_72be8_11 rfl (lv_at hl 2 rfl) ?_
    refine lv_iload_n hx hb dJx4a65c_add_72be8_12 rfl (lv_at hl 3 rfl) ?_
    refine lv_aload_n hx hb dJx4a65c_add_72be8_13 rfl (lv_at hl 1 rfl) ?_
    refine mm_oast S hC hR h2 hv rfl hC.2.2.2.2.1.2.2.1.1 (j := n) (by omega) (by omega) dJx4a65c_add_72be8_14 (fun H locs M8 g8 f8 hR => ?_)
    have h1 := f8.at h1 (mm_nc (mm_neoi h1 h2) mm_n0)
    have h2 : M8 E = some (oa G cap (va_up f n (some v))) := g8
    have hF := hF.tr f8 (mm_ic 1 rfl mm_i0)
    refine lv_aload_n hx hb dJx4a65c_add_72be8_15 rfl (lv_at hl 0 rfl) ?_
    refine lv_iload_n hx hb dJx4a65c_add_72be8_16 rfl (lv_at hl 3 rfl) ?_
    refine lv_iconst (v := nI 1) hx hb dJx4a65c_add_72be8_17 (by decide) ?_
    refine lv_iadd hx hb dJx4a65c_add_72be8_18 ?_
    refine mm_eqi (nI_add _ _) ?_
    refine mm_put S hC hR (C := RJx4a65c) (T := TJx4a65c) (N := 3) (ref := "java/util/ArrayList") 2 h1 inRJx4a65c rfl tyJx4a65c_ok nmJx4a65c (by decide) (by decide +kernel) (fun _ h9 => h9) rfl rfl rfl (Nat.le_of_ble_eq_true rfl) dJx4a65c_add_72be8_19 (fun H locs M56 g58 f57 hR => ?_)
    have h2 := f57.at h2 (mm_nc (Ne.symm (mm_neoi h1 h2)) mm_n0)
    have h1 : M56 Ls = some (ob 0 [.int mc, .ref E, .int (nI (n + 1))]) := g58
    have hF := hF.tr f57 (mm_ic 0 rfl mm_i0)
    refine W.widen (k := 1) (n := 1000) (by omega) (by omega) ?_
    exact mm_vret S hr hlocks hR ⟨h2, h1, hF⟩ dJx4a65c_add_72be8_22
  · have c55 : n = cap := (nI_eq (a := n) (b := cap) (by omega) (by omega)).mp c55
    omega

set_option maxHeartbeats 4000000 in
set_option maxRecDepth 100000 in
theorem c_add1_8_first (l : Launch) (G : mm_G) (M : mm_M) (sz : Nat) (Ls v : Nat) (mc : Int32) (fs : List Value) (h1 : M Ls = some (ob 0 [.int mc, .ref G.2.2.2.2.1, .int (nI 0)])) (hv : M v = some (ob 8 fs)) : mm_v l yJx4a65c_add_72be8 wsJx4a65c_add_72be8 ({ frames := 5, cells := 1, slots := 1000, locals := 150 } : Room) G ([.ref Ls, .ref v, .ref G.2.2.2.2.1, .int (nI 0)] : List Value) M sz (fun M' => ∃ q, M q = none ∧ M' q = some (oa G 10 (va_up (fun _ => none) 0 (some v))) ∧ M' Ls = some (ob 0 [.int mc, .ref q, .int (nI 1)]) ∧ mm_fr [Ls] M M') := by
  refine mm_enter (cc := cJx4a65c_add_72be8) (maxL := 4) (ret := none) _ (by decide) rfl (Nat.le_of_ble_eq_true rfl) ?_
  intro p0 e0 s m0 be0 me0 c0 ls S hr hlocks hname hA hC hR hl
  have hx := S.1
  have hb := S.2.1
  have hl : lv_has ls 4 [(0, .ref Ls), (1, .ref v), (2, .ref G.2.2.2.2.1), (3, .int (nI 0))] := hl
  have inRJx4a65c : ∀ w ∈ wsJx4a65c0, w ∈ wsJx4a65c_add_72be8 := by decide +kernel
  have hF : mm_fr [Ls] M M := mm_fr.rf
  have n_v_Ls : v ≠ Ls := mm_neoo hv h1 (by decide)
  refine lv_iload_n hx hb dJx4a65c_add_72be8_0 rfl (lv_at hl 3 rfl) ?_
  refine lv_aload_n hx hb dJx4a65c_add_72be8_1 rfl (lv_at hl 2 rfl) ?_
  refine mm_lempty S hC hR dJx4a65c_add_72be8_2 ?_
  refine lv_icmp_ne (tgt := 11) hx hb dJx4a65c_add_72be8_3 (by decide) (fun c59 => ?_) (fun c59 => ?_)
  · have c59 : 0 ≠ 0 := fun z => c59 (congrArg nI z)
    omega
  · have c59 : 0 = 0 := (nI_eq (a := 0) (b := 0) (by omega) (by omega)).mp c59
    refine lv_aload_n hx hb dJx4a65c_add_72be8_6 rfl (lv_at hl 0 rfl) ?_
    refine mm_callq hA hR (va_runV (As := []) (rest := []) S (c_grow0_first l G M _ Ls mc h1) (cwV 0 S.2.2.2.2 gJx4a65c_add_72be8_Jx4a65c_grow_d5877 rfl rfl rfl (by decide +kernel) ⟨Nat.le_of_ble_eq_true rfl, Nat.le_of_ble_eq_true rfl⟩) (mm_preV hC hA hR _ h1 rfl) rfl rfl hl.1 rfl (lv_room (Nat.le_of_ble_eq_true rfl)) dJx4a65c_add_72be8_7 ⟨Nat.le_of_ble_eq_true rfl, Nat.le_of_ble_eq_true rfl⟩) (fun r60 M61 H locs hp hR => ?_)
    obtain ⟨q, e1, y1, e2, e3, ff⟩ := hp
    subst e1
    have hv := ff.at hv (mm_nc n_v_Ls mm_n0)
    have n_Ls_q : Ls ≠ q := mm_nenew h1 y1
    have h1 : M61 Ls = some (ob 0 [.int mc, .ref q, .int (nI 0)]) := e3
    have h2 : M61 q = some (oa G 10 (fun _ => none)) := e2
    have hF := hF.tr ff (mm_ic 0 rfl mm_i0)
    refine lv_astore_n (lv' := [(2, .ref q), (0, .ref Ls), (1, .ref v), (3, .int (nI 0))]) hx hb dJx4a65c_add_72be8_10 rfl hl (by decide) rfl (fun ls hl => ?_)
    refine lv_aload_n hx hb dJx4a65c_add_72be8_11 rfl (lv_at hl 0 rfl) ?_
    refine lv_iload_n hx hb dJx4a65c_add_72be8_12 rfl (lv_at hl 3 rfl) ?_
    refine lv_aload_n hx hb dJx4a65c_add_72be8_13 rfl (lv_at hl 2 rfl) ?_
    refine mm_oast S hC hR h2 hv rfl hC.2.2.2.2.1.2.2.1.1 (j := 0) (by omega) (by omega) dJx4a65c_add_72be8_14 (fun H locs M8 g8 f8 hR => ?_)
    have h1 := f8.at h1 (mm_nc n_Ls_q mm_n0)
    have h2 : M8 q = some (oa G 10 (va_up (fun _ => none) 0 (some v))) := g8
    have hF := hF.tr f8 (mm_in y1 mm_i0)
    refine lv_aload_n hx hb dJx4a65c_add_72be8_15 rfl (lv_at hl 1 rfl) ?_
    refine lv_iload_n hx hb dJx4a65c_add_72be8_16 rfl (lv_at hl 3 rfl) ?_
    refine lv_iconst (v := nI 1) hx hb dJx4a65c_add_72be8_17 (by decide) ?_
    refine lv_iadd hx hb dJx4a65c_add_72be8_18 ?_
    refine mm_eqi (show nI 0 + nI 1 = nI 1 from by decide) ?_
    refine mm_put S hC hR (C := RJx4a65c) (T := TJx4a65c) (N := 3) (ref := "java/util/ArrayList") 2 h1 inRJx4a65c rfl tyJx4a65c_ok nmJx4a65c (by decide) (by decide +kernel) (fun _ h9 => h9) rfl rfl rfl (Nat.le_of_ble_eq_true rfl) dJx4a65c_add_72be8_19 (fun H locs M62 g64 f63 hR => ?_)
    have h2 := f63.at h2 (mm_nc (Ne.symm n_Ls_q) mm_n0)
    have h1 : M62 Ls = some (ob 0 [.int mc, .ref q, .int (nI 1)]) := g64
    have hF := hF.tr f63 (mm_ic 0 rfl mm_i0)
    exact mm_vret S hr hlocks hR ⟨q, y1, h2, h1, hF⟩ dJx4a65c_add_72be8_22

set_option maxHeartbeats 4000000 in
set_option maxRecDepth 100000 in
theorem c_add1_4_full (l : Launch) (G : mm_G) (M : mm_M) (sz : Nat) (Ls E cap v : Nat) (mc : Int32) (f : Nat → Option Nat) (fs : List Value) (h1 : M Ls = some (ob 0 [.int mc, .ref E, .int (nI cap)])) (h2 : M E = some (oa G cap f)) (hv : M v = some (ob 4 fs)) (h0 : 1 ≤ cap) (hc : cap ≤ 600) (hel : ∀ i, i < cap → ∀ y, f i = some y → ∃ fs, M y = some (ob 4 fs)) : mm_v l yJx4a65c_add_72be8 wsJx4a65c_add_72be8 ({ frames := 5, cells := 1, slots := 1000, locals := 150 } : Room) G ([.ref Ls, .ref v, .ref E, .int (nI cap)] : List Value) M sz (fun M' => ∃ q, M q = none ∧ M' q = some (oa G (cap + max 1 (cap / 2)) (va_up (va_cpy f (fun _ => none) 0 0 cap) cap (some v))) ∧ M' Ls = some (ob 0 [.int mc, .ref q, .int (nI (cap + 1))]) ∧ mm_fr [Ls] M M') := by
  refine mm_enter (cc := cJx4a65c_add_72be8) (maxL := 4) (ret := none) _ (by decide) rfl (Nat.le_of_ble_eq_true rfl) ?_
  intro p0 e0 s m0 be0 me0 c0 ls S hr hlocks hname hA hC hR hl
  have hx := S.1
  have hb := S.2.1
  have hl : lv_has ls 4 [(0, .ref Ls), (1, .ref v), (2, .ref E), (3, .int (nI cap))] := hl
  have inRJx4a65c : ∀ w ∈ wsJx4a65c0, w ∈ wsJx4a65c_add_72be8 := by decide +kernel
  have hF : mm_fr [Ls] M M := mm_fr.rf
  have n_v_Ls : v ≠ Ls := mm_neoo hv h1 (by decide)
  refine lv_iload_n hx hb dJx4a65c_add_72be8_0 rfl (lv_at hl 3 rfl) ?_
  refine lv_aload_n hx hb dJx4a65c_add_72be8_1 rfl (lv_at hl 2 rfl) ?_
  refine mm_olen S hC hR h2 dJx4a65c_add_72be8_2 ?_
  refine lv_icmp_ne (tgt := 11) hx hb dJx4a65c_add_72be8_3 (by decide) (fun c65 => ?_) (fun c65 => ?_)
  · have c65 : cap ≠ cap := fun z => c65 (congrArg nI z)
    omega
  · have c65 : cap = cap := (nI_eq (a := cap) (b := cap) (by omega) (by omega)).mp c65
    refine lv_aload_n hx hb dJx4a65c_add_72be8_6 rfl (lv_at hl 0 rfl) ?_
    refine mm_callq hA hR (va_runV (As := []) (rest := []) S (c_grow0_full l G M _ Ls E cap mc f h1 h2 h0 hc hel) (cwV 0 S.2.2.2.2 gJx4a65c_add_72be8_Jx4a65c_grow_d5877 rfl rfl rfl (by decide +kernel) ⟨Nat.le_of_ble_eq_true rfl, Nat.le_of_ble_eq_true rfl⟩) (mm_preV hC hA hR _ h1 rfl) rfl rfl hl.1 rfl (lv_room (Nat.le_of_ble_eq_true rfl)) dJx4a65c_add_72be8_7 ⟨Nat.le_of_ble_eq_true rfl, Nat.le_of_ble_eq_true rfl⟩) (fun r66 M67 H locs hp hR => ?_)
    obtain ⟨q, e1, y1, e2, e3, ff⟩ := hp
    subst e1
    have hv := ff.at hv (mm_nc n_v_Ls mm_n0)
    have n_Ls_q : Ls ≠ q := mm_nenew h1 y1
    have h1 : M67 Ls = some (ob 0 [.int mc, .ref q, .int (nI cap)]) := e3
    have h2 : M67 q = some (oa G (cap + max 1 (cap / 2)) (va_cpy f (fun _ => none) 0 0 cap)) := e2
    have hF := hF.tr ff (mm_ic 0 rfl mm_i0)
    refine lv_astore_n (lv' := [(2, .ref q), (0, .ref Ls), (1, .ref v), (3, .int (nI cap))]) hx hb dJx4a65c_add_72be8_10 rfl hl (by decide) rfl (fun ls hl => ?_)
    refine lv_aload_n hx hb dJx4a65c_add_72be8_11 rfl (lv_at hl 0 rfl) ?_
    refine lv_iload_n hx hb dJx4a65c_add_72be8_12 rfl (lv_at hl 3 rfl) ?_
    refine lv_aload_n hx hb dJx4a65c_add_72be8_13 rfl (lv_at hl 2 rfl) ?_
    refine mm_oast S hC hR h2 hv rfl hC.2.2.2.2.1.2.2.1.2 (j := cap) (by omega) (by omega) dJx4a65c_add_72be8_14 (fun H locs M8 g8 f8 hR => ?_)
    have h1 := f8.at h1 (mm_nc n_Ls_q mm_n0)
    have h2 : M8 q = some (oa G (cap + max 1 (cap / 2)) (va_up (va_cpy f (fun _ => none) 0 0 cap) cap (some v))) := g8
    have hF := hF.tr f8 (mm_in y1 mm_i0)
    refine lv_aload_n hx hb dJx4a65c_add_72be8_15 rfl (lv_at hl 1 rfl) ?_
    refine lv_iload_n hx hb dJx4a65c_add_72be8_16 rfl (lv_at hl 3 rfl) ?_
    refine lv_iconst (v := nI 1) hx hb dJx4a65c_add_72be8_17 (by decide) ?_
    refine lv_iadd hx hb dJx4a65c_add_72be8_18 ?_
    refine mm_eqi (nI_add _ _) ?_
    refine mm_put S hC hR (C := RJx4a65c) (T := TJx4a65c) (N := 3) (ref := "java/util/ArrayList") 2 h1 inRJx4a65c rfl tyJx4a65c_ok nmJx4a65c (by decide) (by decide +kernel) (fun _ h9 => h9) rfl rfl rfl (Nat.le_of_ble_eq_true rfl) dJx4a65c_add_72be8_19 (fun H locs M68 g70 f69 hR => ?_)
    have h2 := f69.at h2 (mm_nc (Ne.symm n_Ls_q) mm_n0)
    have h1 : M68 Ls = some (ob 0 [.int mc, .ref q, .int (nI (cap + 1))]) := g70
    have hF := hF.tr f69 (mm_ic 0 rfl mm_i0)
    exact mm_vret S hr hlocks hR ⟨q, y1, h2, h1, hF⟩ dJx4a65c_add_72be8_22

set_option maxHeartbeats 4000000 in
set_option maxRecDepth 100000 in
theorem c_add_4_lo (l : Launch) (G : mm_G) (M : mm_M) (sz : Nat) (Ls E n cap v : Nat) (mc : Int32) (f : Nat → Option Nat) (fs : List Value) (h1 : M Ls = some (ob 0 [.int mc, .ref E, .int (nI n)])) (h2 : M E = some (oa G cap f)) (hv : M v = some (ob 4 fs)) (hn : n < cap) (hcap : cap ≤ 1000) : mm_i l yJx4a65c_add_9ea2d wsJx4a65c_add_9ea2d ({ frames := 6, cells := 1, slots := 1000, locals := 180 } : Room) G ([.ref Ls, .ref v] : List Value) M sz (fun r M' => M' E = some (oa G cap (va_up f n (some v))) ∧ (∃ mc', M' Ls = some (ob 0 [.int mc', .ref E, .int (nI (n + 1))])) ∧ mm_fr [Ls, E] M M') := by
  refine mm_enter (cc := cJx4a65c_add_9ea2d) (maxL := 2) (ret := (some .boolean)) _ (by decide) rfl (Nat.le_of_ble_eq_true rfl) ?_
  intro p0 e0 s m0 be0 me0 c0 ls S hr hlocks hname hA hC hR hl
  have hx := S.1
  have hb := S.2.1
  have hl : lv_has ls 2 [(0, .ref Ls), (1, .ref v)] := hl
  have inRJx4a65c : ∀ w ∈ wsJx4a65c0, w ∈ wsJx4a65c_add_9ea2d := by decide +kernel
  have hF : mm_fr [Ls, E] M M := mm_fr.rf
  have n_v_Ls : v ≠ Ls := mm_neoo hv h1 (by decide)
  refine lv_aload_n hx hb dJx4a65c_add_9ea2d_0 rfl (lv_at hl 0 rfl) ?_
  refine lv_dup hx hb dJx4a65c_add_9ea2d_1 rfl ?_
  refine mm_get S hC hR (C := RJx4a65c) (T := TJx4a65c) (N := 3) (ref := "java/util/ArrayList") (v := .int mc) 0 h1 inRJx4a65c rfl (by decide) (by decide +kernel) (u_same (S.2.2.2.2 (.sameField "java/util/ArrayList" "java/util/AbstractList" "modCount" "I") (by decide +kernel))) rfl dJx4a65c_add_9ea2d_2 ?_
  refine lv_iconst (v := nI 1) hx hb dJx4a65c_add_9ea2d_5 (by decide) ?_
  refine lv_iadd hx hb dJx4a65c_add_9ea2d_6 ?_
  refine mm_put S hC hR (C := RJx4a65c) (T := TJx4a65c) (N := 3) (ref := "java/util/ArrayList") 0 h1 inRJx4a65c rfl tyJx4a65c_ok nmJx4a65c (by decide) (by decide +kernel) (u_same (S.2.2.2.2 (.sameField "java/util/ArrayList" "java/util/AbstractList" "modCount" "I") (by decide +kernel))) rfl rfl rfl (Nat.le_of_ble_eq_true rfl) dJx4a65c_add_9ea2d_7 (fun H locs M71 g73 f72 hR => ?_)
  have h2 := f72.at h2 (mm_nc (Ne.symm (mm_neoi h1 h2)) mm_n0)
  have hv := f72.at hv (mm_nc n_v_Ls mm_n0)
  have h1 : M71 Ls = some (ob 0 [.int (mc + (nI 1)), .ref E, .int (nI n)]) := g73
  have hF := hF.tr f72 (mm_ic 0 rfl mm_i0)
  refine lv_aload_n hx hb dJx4a65c_add_9ea2d_10 rfl (lv_at hl 0 rfl) ?_
  refine lv_aload_n hx hb dJx4a65c_add_9ea2d_11 rfl (lv_at hl 1 rfl) ?_
  refine lv_aload_n hx hb dJx4a65c_add_9ea2d_12 rfl (lv_at hl 0 rfl) ?_
  refine mm_get S hC hR (C := RJx4a65c) (T := TJx4a65c) (N := 3) (ref := "java/util/ArrayList") (v := .ref E) 1 h1 inRJx4a65c rfl (by decide) (by decide +kernel) (fun _ h9 => h9) rfl dJx4a65c_add_9ea2d_13 ?_
  refine lv_aload_n hx hb dJx4a65c_add_9ea2d_16 rfl (lv_at hl 0 rfl) ?_
  refine mm_get S hC hR (C := RJx4a65c) (T := TJx4a65c) (N := 3) (ref := "java/util/ArrayList") (v := .int (nI n)) 2 h1 inRJx4a65c rfl (by decide) (by decide +kernel) (fun _ h9 => h9) rfl dJx4a65c_add_9ea2d_17 ?_
  refine mm_callv hA hR (va_runV (As := [.ref v, .ref E, .int (nI n)]) (rest := []) S (c_add1_4_lo l G M71 _ Ls E n cap v _ f fs h1 h2 hv hn hcap) (cwV 3 S.2.2.2.2 gJx4a65c_add_9ea2d_Jx4a65c_add_72be8 rfl rfl rfl (by decide +kernel) ⟨Nat.le_of_ble_eq_true rfl, Nat.le_of_ble_eq_true rfl⟩) (mm_preV hC hA hR _ h1 rfl) rfl rfl hl.1 rfl (lv_room (Nat.le_of_ble_eq_true rfl)) dJx4a65c_add_9ea2d_20 ⟨Nat.le_of_ble_eq_true rfl, Nat.le_of_ble_eq_true rfl⟩) (fun M75 H locs hp hR => ?_)
  obtain ⟨e1, e2, ff⟩ := hp
  have hF := hF.tr ff (mm_ic 0 rfl (mm_ic 1 rfl mm_i0))
  refine lv_iconst (v := nI 1) hx hb dJx4a65c_add_9ea2d_23 (by decide) ?_
  exact mm_zret S hr hlocks (by decide) hR ⟨e1, ⟨_, e2⟩, hF⟩ dJx4a65c_add_9ea2d_24

set_option maxHeartbeats 4000000 in
set_option maxRecDepth 100000 in
theorem c_add_4_first (l : Launch) (G : mm_G) (M : mm_M) (sz : Nat) (Ls v : Nat) (mc : Int32) (fs : List Value) (h1 : M Ls = some (ob 0 [.int mc, .ref G.2.2.2.2.1, .int (nI 0)])) (hv : M v = some (ob 4 fs)) : mm_i l yJx4a65c_add_9ea2d wsJx4a65c_add_9ea2d ({ frames := 6, cells := 1, slots := 1000, locals := 180 } : Room) G ([.ref Ls, .ref v] : List Value) M sz (fun r M' => ∃ q, M q = none ∧ M' q = some (oa G 10 (va_up (fun _ => none) 0 (some v))) ∧ (∃ mc', M' Ls = some (ob 0 [.int mc', .ref q, .int (nI 1)])) ∧ mm_fr [Ls] M M') := by
  refine mm_enter (cc := cJx4a65c_add_9ea2d) (maxL := 2) (ret := (some .boolean)) _ (by decide) rfl (Nat.le_of_ble_eq_true rfl) ?_
  intro p0 e0 s m0 be0 me0 c0 ls S hr hlocks hname hA hC hR hl
  have hx := S.1
  have hb := S.2.1
  have hl : lv_has ls 2 [(0, .ref Ls), (1, .ref v)] := hl
  have inRJx4a65c : ∀ w ∈ wsJx4a65c0, w ∈ wsJx4a65c_add_9ea2d := by decide +kernel
  have hF : mm_fr [Ls] M M := mm_fr.rf
  have n_v_Ls : v ≠ Ls := mm_neoo hv h1 (by decide)
  refine lv_aload_n hx hb dJx4a65c_add_9ea2d_0 rfl (lv_at hl 0 rfl) ?_
  refine lv_dup hx hb dJx4a65c_add_9ea2d_1 rfl ?_
  refine mm_get S hC hR (C := RJx4a65c) (T := TJx4a65c) (N := 3) (ref := "java/util/ArrayList") (v := .int mc) 0 h1 inRJx4a65c rfl (by decide) (by decide +kernel) (u_same (S.2.2.2.2 (.sameField "java/util/ArrayList" "java/util/AbstractList" "modCount" "I") (by decide +kernel))) rfl dJx4a65c_add_9ea2d_2 ?_
  refine lv_iconst (v := nI 1) hx hb dJx4a65c_add_9ea2d_5 (by decide) ?_
  refine lv_iadd hx hb dJx4a65c_add_9ea2d_6 ?_
  refine mm_put S hC hR (C := RJx4a65c) (T := TJx4a65c) (N := 3) (ref := "java/util/ArrayList") 0 h1 inRJx4a65c rfl tyJx4a65c_ok nmJx4a65c (by decide) (by decide +kernel) (u_same (S.2.2.2.2 (.sameField "java/util/ArrayList" "java/util/AbstractList" "modCount" "I") (by decide +kernel))) rfl rfl rfl (Nat.le_of_ble_eq_true rfl) dJx4a65c_add_9ea2d_7 (fun H locs M76 g78 f77 hR => ?_)
  have hv := f77.at hv (mm_nc n_v_Ls mm_n0)
  have h1 : M76 Ls = some (ob 0 [.int (mc + (nI 1)), .ref G.2.2.2.2.1, .int (nI 0)]) := g78
  have hF := hF.tr f77 (mm_ic 0 rfl mm_i0)
  refine lv_aload_n hx hb dJx4a65c_add_9ea2d_10 rfl (lv_at hl 0 rfl) ?_
  refine lv_aload_n hx hb dJx4a65c_add_9ea2d_11 rfl (lv_at hl 1 rfl) ?_
  refine lv_aload_n hx hb dJx4a65c_add_9ea2d_12 rfl (lv_at hl 0 rfl) ?_
  refine mm_get S hC hR (C := RJx4a65c) (T := TJx4a65c) (N := 3) (ref := "java/util/ArrayList") (v := .ref G.2.2.2.2.1) 1 h1 inRJx4a65c rfl (by decide) (by decide +kernel) (fun _ h9 => h9) rfl dJx4a65c_add_9ea2d_13 ?_
  refine lv_aload_n hx hb dJx4a65c_add_9ea2d_16 rfl (lv_at hl 0 rfl) ?_
  refine mm_get S hC hR (C := RJx4a65c) (T := TJx4a65c) (N := 3) (ref := "java/util/ArrayList") (v := .int (nI 0)) 2 h1 inRJx4a65c rfl (by decide) (by decide +kernel) (fun _ h9 => h9) rfl dJx4a65c_add_9ea2d_17 ?_
  refine mm_callv hA hR (va_runV (As := [.ref v, .ref G.2.2.2.2.1, .int (nI 0)]) (rest := []) S (c_add1_4_first l G M76 _ Ls v _ fs h1 hv) (cwV 3 S.2.2.2.2 gJx4a65c_add_9ea2d_Jx4a65c_add_72be8 rfl rfl rfl (by decide +kernel) ⟨Nat.le_of_ble_eq_true rfl, Nat.le_of_ble_eq_true rfl⟩) (mm_preV hC hA hR _ h1 rfl) rfl rfl hl.1 rfl (lv_room (Nat.le_of_ble_eq_true rfl)) dJx4a65c_add_9ea2d_20 ⟨Nat.le_of_ble_eq_true rfl, Nat.le_of_ble_eq_true rfl⟩) (fun M80 H locs hp hR => ?_)
  obtain ⟨q, y1, e1, e2, ff⟩ := hp
  have nn_q : M q = none := hF.none y1 (mm_oc h1 mm_o0)
  have hF := hF.tr ff (mm_ic 0 rfl mm_i0)
  refine lv_iconst (v := nI 1) hx hb dJx4a65c_add_9ea2d_23 (by decide) ?_
  exact mm_zret S hr hlocks (by decide) hR ⟨q, nn_q, e1, ⟨_, e2⟩, hF⟩ dJx4a65c_add_9ea2d_24

set_option maxHeartbeats 4000000 in
set_option maxRecDepth 100000 in
theorem c_add_8_lo (l : Launch) (G : mm_G) (M : mm_M) (sz : Nat) (Ls E n cap v : Nat) (mc : Int32) (f : Nat → Option Nat) (fs : List Value) (h1 : M Ls = some (ob 0 [.int mc, .ref E, .int (nI n)])) (h2 : M E = some (oa G cap f)) (hv : M v = some (ob 8 fs)) (hn : n < cap) (hcap : cap ≤ 1000) : mm_i l yJx4a65c_add_9ea2d wsJx4a65c_add_9ea2d ({ frames := 6, cells := 1, slots := 1000, locals := 180 } : Room) G ([.ref Ls, .ref v] : List Value) M sz (fun r M' => M' E = some (oa G cap (va_up f n (some v))) ∧ (∃ mc', M' Ls = some (ob 0 [.int mc', .ref E, .int (nI (n + 1))])) ∧ mm_fr [Ls, E] M M') := by
  refine mm_enter (cc := cJx4a65c_add_9ea2d) (maxL := 2) (ret := (some .boolean)) _ (by decide) rfl (Nat.le_of_ble_eq_true rfl) ?_
  intro p0 e0 s m0 be0 me0 c0 ls S hr hlocks hname hA hC hR hl
  have hx := S.1
  have hb := S.2.1
  have hl : lv_has ls 2 [(0, .ref Ls), (1, .ref v)] := hl
  have inRJx4a65c : ∀ w ∈ wsJx4a65c0, w ∈ wsJx4a65c_add_9ea2d := by decide +kernel
  have hF : mm_fr [Ls, E] M M := mm_fr.rf
  have n_v_Ls : v ≠ Ls := mm_neoo hv h1 (by decide)
  refine lv_aload_n hx hb dJx4a65c_add_9ea2d_0 rfl (lv_at hl 0 rfl) ?_
  refine lv_dup hx hb dJx4a65c_add_9ea2d_1 rfl ?_
  refine mm_get S hC hR (C := RJx4a65c) (T := TJx4a65c) (N := 3) (ref := "java/util/ArrayList") (v := .int mc) 0 h1 inRJx4a65c rfl (by decide) (by decide +kernel) (u_same (S.2.2.2.2 (.sameField "java/util/ArrayList" "java/util/AbstractList" "modCount" "I") (by decide +kernel))) rfl dJx4a65c_add_9ea2d_2 ?_
  refine lv_iconst (v := nI 1) hx hb dJx4a65c_add_9ea2d_5 (by decide) ?_
  refine lv_iadd hx hb dJx4a65c_add_9ea2d_6 ?_
  refine mm_put S hC hR (C := RJx4a65c) (T := TJx4a65c) (N := 3) (ref := "java/util/ArrayList") 0 h1 inRJx4a65c rfl tyJx4a65c_ok nmJx4a65c (by decide) (by decide +kernel) (u_same (S.2.2.2.2 (.sameField "java/util/ArrayList" "java/util/AbstractList" "modCount" "I") (by decide +kernel))) rfl rfl rfl (Nat.le_of_ble_eq_true rfl) dJx4a65c_add_9ea2d_7 (fun H locs M81 g83 f82 hR => ?_)
  have h2 := f82.at h2 (mm_nc (Ne.symm (mm_neoi h1 h2)) mm_n0)
  have hv := f82.at hv (mm_nc n_v_Ls mm_n0)
  have h1 : M81 Ls = some (ob 0 [.int (mc + (nI 1)), .ref E, .int (nI n)]) := g83
  have hF := hF.tr f82 (mm_ic 0 rfl mm_i0)
  refine lv_aload_n hx hb dJx4a65c_add_9ea2d_10 rfl (lv_at hl 0 rfl) ?_
  refine lv_aload_n hx hb dJx4a65c_add_9ea2d_11 rfl (lv_at hl 1 rfl) ?_
  refine lv_aload_n hx hb dJx4a65c_add_9ea2d_12 rfl (lv_at hl 0 rfl) ?_
  refine mm_get S hC hR (C := RJx4a65c) (T := TJx4a65c) (N := 3) (ref := "java/util/ArrayList") (v := .ref E) 1 h1 inRJx4a65c rfl (by decide) (by decide +kernel) (fun _ h9 => h9) rfl dJx4a65c_add_9ea2d_13 ?_
  refine lv_aload_n hx hb dJx4a65c_add_9ea2d_16 rfl (lv_at hl 0 rfl) ?_
  refine mm_get S hC hR (C := RJx4a65c) (T := TJx4a65c) (N := 3) (ref := "java/util/ArrayList") (v := .int (nI n)) 2 h1 inRJx4a65c rfl (by decide) (by decide +kernel) (fun _ h9 => h9) rfl dJx4a65c_add_9ea2d_17 ?_
  refine mm_callv hA hR (va_runV (As := [.ref v, .ref E, .int (nI n)]) (rest := []) S (c_add1_8_lo l G M81 _ Ls E n cap v _ f fs h1 h2 hv hn hcap) (cwV 3 S.2.2.2.2 gJx4a65c_add_9ea2d_Jx4a65c_add_72be8 rfl rfl rfl (by decide +kernel) ⟨Nat.le_of_ble_eq_true rfl, Nat.le_of_ble_eq_true rfl⟩) (mm_preV hC hA hR _ h1 rfl) rfl rfl hl.1 rfl (lv_room (Nat.le_of_ble_eq_true rfl)) dJx4a65c_add_9ea2d_20 ⟨Nat.le_of_ble_eq_true rfl, Nat.le_of_ble_eq_true rfl⟩) (fun M85 H locs hp hR => ?_)
  obtain ⟨e1, e2, ff⟩ := hp
  have hF := hF.tr ff (mm_ic 0 rfl (mm_ic 1 rfl mm_i0))
  refine lv_iconst (v := nI 1) hx hb dJx4a65c_add_9ea2d_23 (by decide) ?_
  exact mm_zret S hr hlocks (by decide) hR ⟨e1, ⟨_, e2⟩, hF⟩ dJx4a65c_add_9ea2d_24

set_option maxHeartbeats 4000000 in
set_option maxRecDepth 100000 in
theorem c_add_8_first (l : Launch) (G : mm_G) (M : mm_M) (sz : Nat) (Ls v : Nat) (mc : Int32) (fs : List Value) (h1 : M Ls = some (ob 0 [.int mc, .ref G.2.2.2.2.1, .int (nI 0)])) (hv : M v = some (ob 8 fs)) : mm_i l yJx4a65c_add_9ea2d wsJx4a65c_add_9ea2d ({ frames := 6, cells := 1, slots := 1000, locals := 180 } : Room) G ([.ref Ls, .ref v] : List Value) M sz (fun r M' => ∃ q, M q = none ∧ M' q = some (oa G 10 (va_up (fun _ => none) 0 (some v))) ∧ (∃ mc', M' Ls = some (ob 0 [.int mc', .ref q, .int (nI 1)])) ∧ mm_fr [Ls] M M') := by
  refine mm_enter (cc := cJx4a65c_add_9ea2d) (maxL := 2) (ret := (some .boolean)) _ (by decide) rfl (Nat.le_of_ble_eq_true rfl) ?_
  intro p0 e0 s m0 be0 me0 c0 ls S hr hlocks hname hA hC hR hl
  have hx := S.1
  have hb := S.2.1
  have hl : lv_has ls 2 [(0, .ref Ls), (1, .ref v)] := hl
  have inRJx4a65c : ∀ w ∈ wsJx4a65c0, w ∈ wsJx4a65c_add_9ea2d := by decide +kernel
  have hF : mm_fr [Ls] M M := mm_fr.rf
  have n_v_Ls : v ≠ Ls := mm_neoo hv h1 (by decide)
  refine lv_aload_n hx hb dJx4a65c_add_9ea2d_0 rfl (lv_at hl 0 rfl) ?_
  refine lv_dup hx hb dJx4a65c_add_9ea2d_1 rfl ?_
  refine mm_get S hC hR (C := RJx4a65c) (T := TJx4a65c) (N := 3) (ref := "java/util/ArrayList") (v := .int mc) 0 h1 inRJx4a65c rfl (by decide) (by decide +kernel) (u_same (S.2.2.2.2 (.sameField "java/util/ArrayList" "java/util/AbstractList" "modCount" "I") (by decide +kernel))) rfl dJx4a65c_add_9ea2d_2 ?_
  refine lv_iconst (v := nI 1) hx hb dJx4a65c_add_9ea2d_5 (by decide) ?_
  refine lv_iadd hx hb dJx4a65c_add_9ea2d_6 ?_
  refine mm_put S hC hR (C := RJx4a65c) (T := TJx4a65c) (N := 3) (ref := "java/util/ArrayList") 0 h1 inRJx4a65c rfl tyJx4a65c_ok nmJx4a65c (by decide) (by decide +kernel) (u_same (S.2.2.2.2 (.sameField "java/util/ArrayList" "java/util/AbstractList" "modCount" "I") (by decide +kernel))) rfl rfl rfl (Nat.le_of_ble_eq_true rfl) dJx4a65c_add_9ea2d_7 (fun H locs M86 g88 f87 hR => ?_)
  have hv := f87.at hv (mm_nc n_v_Ls mm_n0)
  have h1 : M86 Ls = some (ob 0 [.int (mc + (nI 1)), .ref G.2.2.2.2.1, .int (nI 0)]) := g88
  have hF := hF.tr f87 (mm_ic 0 rfl mm_i0)
  refine lv_aload_n hx hb dJx4a65c_add_9ea2d_10 rfl (lv_at hl 0 rfl) ?_
  refine lv_aload_n hx hb dJx4a65c_add_9ea2d_11 rfl (lv_at hl 1 rfl) ?_
  refine lv_aload_n hx hb dJx4a65c_add_9ea2d_12 rfl (lv_at hl 0 rfl) ?_
  refine mm_get S hC hR (C := RJx4a65c) (T := TJx4a65c) (N := 3) (ref := "java/util/ArrayList") (v := .ref G.2.2.2.2.1) 1 h1 inRJx4a65c rfl (by decide) (by decide +kernel) (fun _ h9 => h9) rfl dJx4a65c_add_9ea2d_13 ?_
  refine lv_aload_n hx hb dJx4a65c_add_9ea2d_16 rfl (lv_at hl 0 rfl) ?_
  refine mm_get S hC hR (C := RJx4a65c) (T := TJx4a65c) (N := 3) (ref := "java/util/ArrayList") (v := .int (nI 0)) 2 h1 inRJx4a65c rfl (by decide) (by decide +kernel) (fun _ h9 => h9) rfl dJx4a65c_add_9ea2d_17 ?_
  refine mm_callv hA hR (va_runV (As := [.ref v, .ref G.2.2.2.2.1, .int (nI 0)]) (rest := []) S (c_add1_8_first l G M86 _ Ls v _ fs h1 hv) (cwV 3 S.2.2.2.2 gJx4a65c_add_9ea2d_Jx4a65c_add_72be8 rfl rfl rfl (by decide +kernel) ⟨Nat.le_of_ble_eq_true rfl, Nat.le_of_ble_eq_true rfl⟩) (mm_preV hC hA hR _ h1 rfl) rfl rfl hl.1 rfl (lv_room (Nat.le_of_ble_eq_true rfl)) dJx4a65c_add_9ea2d_20 ⟨Nat.le_of_ble_eq_true rfl, Nat.le_of_ble_eq_true rfl⟩) (fun M90 H locs hp hR => ?_)
  obtain ⟨q, y1, e1, e2, ff⟩ := hp
  have nn_q : M q = none := hF.none y1 (mm_oc h1 mm_o0)
  have hF := hF.tr ff (mm_ic 0 rfl mm_i0)
  refine lv_iconst (v := nI 1) hx hb dJx4a65c_add_9ea2d_23 (by decide) ?_
  exact mm_zret S hr hlocks (by decide) hR ⟨q, nn_q, e1, ⟨_, e2⟩, hF⟩ dJx4a65c_add_9ea2d_24

set_option maxHeartbeats 4000000 in
set_option maxRecDepth 100000 in
theorem c_add_4_full (l : Launch) (G : mm_G) (M : mm_M) (sz : Nat) (Ls E cap v : Nat) (mc : Int32) (f : Nat → Option Nat) (fs : List Value) (h1 : M Ls = some (ob 0 [.int mc, .ref E, .int (nI cap)])) (h2 : M E = some (oa G cap f)) (hv : M v = some (ob 4 fs)) (h0 : 1 ≤ cap) (hc : cap ≤ 600) (hel : ∀ i, i < cap → ∀ y, f i = some y → ∃ fs, M y = some (ob 4 fs)) : mm_i l yJx4a65c_add_9ea2d wsJx4a65c_add_9ea2d ({ frames := 6, cells := 1, slots := 1000, locals := 180 } : Room) G ([.ref Ls, .ref v] : List Value) M sz (fun r M' => ∃ q, M q = none ∧ M' q = some (oa G (cap + max 1 (cap / 2)) (va_up (va_cpy f (fun _ => none) 0 0 cap) cap (some v))) ∧ (∃ mc', M' Ls = some (ob 0 [.int mc', .ref q, .int (nI (cap + 1))])) ∧ mm_fr [Ls] M M') := by
  refine mm_enter (cc := cJx4a65c_add_9ea2d) (maxL := 2) (ret := (some .boolean)) _ (by decide) rfl (Nat.le_of_ble_eq_true rfl) ?_
  intro p0 e0 s m0 be0 me0 c0 ls S hr hlocks hname hA hC hR hl
  have hx := S.1
  have h10 := h1
  have hb := S.2.1
  have hl : lv_has ls 2 [(0, .ref Ls), (1, .ref v)] := hl
  have inRJx4a65c : ∀ w ∈ wsJx4a65c0, w ∈ wsJx4a65c_add_9ea2d := by decide +kernel
  have hF : mm_fr [Ls] M M := mm_fr.rf
  have n_v_Ls : v ≠ Ls := mm_neoo hv h1 (by decide)
  refine lv_aload_n hx hb dJx4a65c_add_9ea2d_0 rfl (lv_at hl 0 rfl) ?_
  refine lv_dup hx hb dJx4a65c_add_9ea2d_1 rfl ?_
  refine mm_get S hC hR (C := RJx4a65c) (T := TJx4a65c) (N := 3) (ref := "java/util/ArrayList") (v := .int mc) 0 h1 inRJx4a65c rfl (by decide) (by decide +kernel) (u_same (S.2.2.2.2 (.sameField "java/util/ArrayList" "java/util/AbstractList" "modCount" "I") (by decide +kernel))) rfl dJx4a65c_add_9ea2d_2 ?_
  refine lv_iconst (v := nI 1) hx hb dJx4a65c_add_9ea2d_5 (by decide) ?_
  refine lv_iadd hx hb dJx4a65c_add_9ea2d_6 ?_
  refine mm_put S hC hR (C := RJx4a65c) (T := TJx4a65c) (N := 3) (ref := "java/util/ArrayList") 0 h1 inRJx4a65c rfl tyJx4a65c_ok nmJx4a65c (by decide) (by decide +kernel) (u_same (S.2.2.2.2 (.sameField "java/util/ArrayList" "java/util/AbstractList" "modCount" "I") (by decide +kernel))) rfl rfl rfl (Nat.le_of_ble_eq_true rfl) dJx4a65c_add_9ea2d_7 (fun H locs M91 g93 f92 hR => ?_)
  have h2 := f92.at h2 (mm_nc (Ne.symm (mm_neoi h1 h2)) mm_n0)
  have hv := f92.at hv (mm_nc n_v_Ls mm_n0)
  have h1 : M91 Ls = some (ob 0 [.int (mc + (nI 1)), .ref E, .int (nI cap)]) := g93
  have hF := hF.tr f92 (mm_ic 0 rfl mm_i0)
  refine lv_aload_n hx hb dJx4a65c_add_9ea2d_10 rfl (lv_at hl 0 rfl) ?_
  refine lv_aload_n hx hb dJx4a65c_add_9ea2d_11 rfl (lv_at hl 1 rfl) ?_
  refine lv_aload_n hx hb dJx4a65c_add_9ea2d_12 rfl (lv_at hl 0 rfl) ?_
  refine mm_get S hC hR (C := RJx4a65c) (T := TJx4a65c) (N := 3) (ref := "java/util/ArrayList") (v := .ref E) 1 h1 inRJx4a65c rfl (by decide) (by decide +kernel) (fun _ h9 => h9) rfl dJx4a65c_add_9ea2d_13 ?_
  refine lv_aload_n hx hb dJx4a65c_add_9ea2d_16 rfl (lv_at hl 0 rfl) ?_
  refine mm_get S hC hR (C := RJx4a65c) (T := TJx4a65c) (N := 3) (ref := "java/util/ArrayList") (v := .int (nI cap)) 2 h1 inRJx4a65c rfl (by decide) (by decide +kernel) (fun _ h9 => h9) rfl dJx4a65c_add_9ea2d_17 ?_
  refine mm_callv hA hR (va_runV (As := [.ref v, .ref E, .int (nI cap)]) (rest := []) S (c_add1_4_full l G M91 _ Ls E cap v _ f fs h1 h2 hv h0 hc (fun i hi y hy => by obtain ⟨fs, z⟩ := hel i hi y hy; exact ⟨fs, hF.at z (mm_nc (mm_neoo z h10 (by decide)) mm_n0)⟩)) (cwV 3 S.2.2.2.2 gJx4a65c_add_9ea2d_Jx4a65c_add_72be8 rfl rfl rfl (by decide +kernel) ⟨Nat.le_of_ble_eq_true rfl, Nat.le_of_ble_eq_true rfl⟩) (mm_preV hC hA hR _ h1 rfl) rfl rfl hl.1 rfl (lv_room (Nat.le_of_ble_eq_true rfl)) dJx4a65c_add_9ea2d_20 ⟨Nat.le_of_ble_eq_true rfl, Nat.le_of_ble_eq_true rfl⟩) (fun M95 H locs hp hR => ?_)
  obtain ⟨q, y1, e1, e2, ff⟩ := hp
  have nn_q : M q = none := hF.none y1 (mm_oc h1 mm_o0)
  have hF := hF.tr ff (mm_ic 0 rfl mm_i0)
  refine lv_iconst (v := nI 1) hx hb dJx4a65c_add_9ea2d_23 (by decide) ?_
  exact mm_zret S hr hlocks (by decide) hR ⟨q, nn_q, e1, ⟨_, e2⟩, hF⟩ dJx4a65c_add_9ea2d_24
