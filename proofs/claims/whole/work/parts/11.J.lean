/-! ===== the JDK's list, and what it stands on ===== -/

set_option maxHeartbeats 4000000 in
set_option maxRecDepth 100000 in
/-- size() -/
theorem c_Jx4a65c_size_8abf5 (l : Launch) (G : mm_G) (M : mm_M) (sz : Nat) (Ls E n : Nat) (mc : Int32) (h1 : M Ls = some (ob 0 [.int mc, .ref E, .int (nI n)]))  : mm_i l yJx4a65c_size_8abf5 wsJx4a65c_size_8abf5 ({ frames := 0, cells := 0, slots := 0, locals := 0 } : Room) G ([.ref Ls] : List Value) M sz (fun r M' => r = nI n ∧ mm_fr [] M M') := by
  refine mm_enter (cc := cJx4a65c_size_8abf5) (maxL := 1) (ret := (some .int)) _ (by decide) rfl (Nat.le_of_ble_eq_true rfl) ?_
  intro p0 e0 s m0 be0 me0 c0 ls S hr hlocks hname hA hC hR hl
  have hx := S.1
  have hb := S.2.1
  have hl : lv_has ls 1 [(0, .ref Ls)] := hl
  have inRJx4a65c : ∀ w ∈ wsJx4a65c0, w ∈ wsJx4a65c_size_8abf5 := by decide +kernel
  have hF : mm_fr [] M M := mm_fr.rf
  refine lv_aload_n hx hb dJx4a65c_size_8abf5_0 rfl (lv_at hl 0 rfl) ?_
  refine mm_get S hC hR (C := RJx4a65c) (T := TJx4a65c) (N := 3) (ref := "java/util/ArrayList") (v := .int (nI n)) 2 h1 inRJx4a65c rfl (by decide) (by decide +kernel) (fun _ h9 => h9) rfl dJx4a65c_size_8abf5_1 ?_
  exact mm_iret S hr hlocks hR ⟨rfl, hF⟩ dJx4a65c_size_8abf5_4

set_option maxHeartbeats 4000000 in
set_option maxRecDepth 100000 in
/-- elementData(i) -/
theorem c_Jx4a65c_elementData_915e3 (l : Launch) (G : mm_G) (M : mm_M) (sz : Nat) (Ls E n cap i : Nat) (mc : Int32) (f : Nat → Option Nat) (h1 : M Ls = some (ob 0 [.int mc, .ref E, .int (nI n)])) (h2 : M E = some (oa G cap f)) (hi : i < cap) (hcap : cap < 2 ^ 31) : mm_q l yJx4a65c_elementData_915e3 wsJx4a65c_elementData_915e3 ({ frames := 0, cells := 0, slots := 0, locals := 0 } : Room) G ([.ref Ls, .int (nI i)] : List Value) M sz (fun r M' => r = f i ∧ mm_fr [] M M') := by
  refine mm_enter (cc := cJx4a65c_elementData_915e3) (maxL := 2) (ret := (some (.object "java/lang/Object"))) _ (by decide) rfl (Nat.le_of_ble_eq_true rfl) ?_
  intro p0 e0 s m0 be0 me0 c0 ls S hr hlocks hname hA hC hR hl
  have hx := S.1
  have hb := S.2.1
  have hl : lv_has ls 2 [(0, .ref Ls), (1, .int (nI i))] := hl
  have inRJx4a65c : ∀ w ∈ wsJx4a65c0, w ∈ wsJx4a65c_elementData_915e3 := by decide +kernel
  have hF : mm_fr [] M M := mm_fr.rf
  refine lv_aload_n hx hb dJx4a65c_elementData_915e3_0 rfl (lv_at hl 0 rfl) ?_
  refine mm_get S hC hR (C := RJx4a65c) (T := TJx4a65c) (N := 3) (ref := "java/util/ArrayList") (v := .ref E) 1 h1 inRJx4a65c rfl (by decide) (by decide +kernel) (fun _ h9 => h9) rfl dJx4a65c_elementData_915e3_1 ?_
  refine lv_iload_n hx hb dJx4a65c_elementData_915e3_4 rfl (lv_at hl 1 rfl) ?_
  refine mm_oald S hC hR h2 (j := i) (v := va_rf (f i)) (by omega) (by omega) rfl dJx4a65c_elementData_915e3_5 ?_
  exact mm_aret (v := f i) S hr (Or.inl ⟨_, rfl⟩) hlocks hR ⟨rfl, hF⟩ dJx4a65c_elementData_915e3_6

set_option maxHeartbeats 4000000 in
set_option maxRecDepth 100000 in
/-- checkIndex(i, n, null) -/
theorem c_J3_checkIndex_8e157 (l : Launch) (G : mm_G) (M : mm_M) (sz : Nat) (i n : Nat)  (hi : i < n) (hn : n < 2 ^ 31) : mm_i l yJ3_checkIndex_8e157 wsJ3_checkIndex_8e157 ({ frames := 0, cells := 0, slots := 0, locals := 0 } : Room) G ([.int (nI i), .int (nI n), .null] : List Value) M sz (fun r M' => r = nI i ∧ mm_fr [] M M') := by
  refine mm_enter (cc := cJ3_checkIndex_8e157) (maxL := 3) (ret := (some .int)) _ (by decide) rfl (Nat.le_of_ble_eq_true rfl) ?_
  intro p0 e0 s m0 be0 me0 c0 ls S hr hlocks hname hA hC hR hl
  have hx := S.1
  have hb := S.2.1
  have hl : lv_has ls 3 [(0, .int (nI i)), (1, .int (nI n)), (2, .null)] := hl
  have hF : mm_fr [] M M := mm_fr.rf
  refine lv_iload_n hx hb dJ3_checkIndex_8e157_0 rfl (lv_at hl 0 rfl) ?_
  refine lv_if_lt (tgt := 9) hx hb dJ3_checkIndex_8e157_1 (by decide) (fun c1 => ?_) (fun c1 => ?_)
  · have c1 : i < 0 := (nI_ltI (by omega) (by omega)).mp c1
    omega
  · have c1 : ¬ (i < 0) := fun z => c1 ((nI_ltI (by omega) (by omega)).mpr z)
    refine lv_iload_n hx hb dJ3_checkIndex_8e157_4 rfl (lv_at hl 0 rfl) ?_
    refine lv_iload_n hx hb dJ3_checkIndex_8e157_5 rfl (lv_at hl 1 rfl) ?_
    refine lv_icmp_lt (tgt := 16) hx hb dJ3_checkIndex_8e157_6 (by decide) (fun c2 => ?_) (fun c2 => ?_)
    · have c2 : i < n := (nI_ltI (by omega) (by omega)).mp c2
      refine lv_iload_n hx hb dJ3_checkIndex_8e157_16 rfl (lv_at hl 0 rfl) ?_
      exact mm_iret S hr hlocks hR ⟨rfl, hF⟩ dJ3_checkIndex_8e157_17
    · have c2 : ¬ (i < n) := fun z => c2 ((nI_ltI (by omega) (by omega)).mpr z)
      omega

set_option maxHeartbeats 4000000 in
set_option maxRecDepth 100000 in
/-- checkIndex(i, n) -/
theorem c_J15_checkIndex_7cf53 (l : Launch) (G : mm_G) (M : mm_M) (sz : Nat) (i n : Nat)  (hi : i < n) (hn : n < 2 ^ 31) : mm_i l yJ15_checkIndex_7cf53 wsJ15_checkIndex_7cf53 ({ frames := 1, cells := 0, slots := 0, locals := 30 } : Room) G ([.int (nI i), .int (nI n)] : List Value) M sz (fun r M' => r = nI i ∧ mm_fr [] M M') := by
  refine mm_enter (cc := cJ15_checkIndex_7cf53) (maxL := 2) (ret := (some .int)) _ (by decide) rfl (Nat.le_of_ble_eq_true rfl) ?_
  intro p0 e0 s m0 be0 me0 c0 ls S hr hlocks hname hA hC hR hl
  have hx := S.1
  have hb := S.2.1
  have hl : lv_has ls 2 [(0, .int (nI i)), (1, .int (nI n))] := hl
  have hF : mm_fr [] M M := mm_fr.rf
  refine lv_iload_n hx hb dJ15_checkIndex_7cf53_0 rfl (lv_at hl 0 rfl) ?_
  refine lv_iload_n hx hb dJ15_checkIndex_7cf53_1 rfl (lv_at hl 1 rfl) ?_
  refine lv_null hx hb dJ15_checkIndex_7cf53_2 ?_
  refine mm_calli hA hR (va_runS (As := [.int (nI i), .int (nI n), .null]) (rest := []) S (c_J3_checkIndex_8e157 l G M _ i n hi hn) (va_cwS 3 S.2.2.2.2 gJ15_checkIndex_7cf53_J3_checkIndex_8e157 rfl rfl rfl (by decide +kernel) ⟨Nat.le_of_ble_eq_true rfl, Nat.le_of_ble_eq_true rfl⟩) (mm_preS hC hA hR _) rfl rfl hl.1 rfl (lv_room (Nat.le_of_ble_eq_true rfl)) dJ15_checkIndex_7cf53_3 ⟨Nat.le_of_ble_eq_true rfl, Nat.le_of_ble_eq_true rfl⟩) (fun r3 M4 H locs hp hR => ?_)
  obtain ⟨e1, ff⟩ := hp
  subst e1
  have hF := hF.tr ff mm_i0
  exact mm_iret S hr hlocks hR ⟨rfl, hF⟩ dJ15_checkIndex_7cf53_6

set_option maxHeartbeats 4000000 in
set_option maxRecDepth 100000 in
/-- get(i) -/
theorem c_Jx4a65c_get_915e3 (l : Launch) (G : mm_G) (M : mm_M) (sz : Nat) (Ls E n cap i : Nat) (mc : Int32) (f : Nat → Option Nat) (h1 : M Ls = some (ob 0 [.int mc, .ref E, .int (nI n)])) (h2 : M E = some (oa G cap f)) (hi : i < n) (hcap : n ≤ cap) (hcap2 : cap < 2 ^ 31) : mm_q l yJx4a65c_get_915e3 wsJx4a65c_get_915e3 ({ frames := 2, cells := 0, slots := 0, locals := 60 } : Room) G ([.ref Ls, .int (nI i)] : List Value) M sz (fun r M' => r = f i ∧ mm_fr [] M M') := by
  refine mm_enter (cc := cJx4a65c_get_915e3) (maxL := 2) (ret := (some (.object "java/lang/Object"))) _ (by decide) rfl (Nat.le_of_ble_eq_true rfl) ?_
  intro p0 e0 s m0 be0 me0 c0 ls S hr hlocks hname hA hC hR hl
  have hx := S.1
  have hb := S.2.1
  have hl : lv_has ls 2 [(0, .ref Ls), (1, .int (nI i))] := hl
  have inRJx4a65c : ∀ w ∈ wsJx4a65c0, w ∈ wsJx4a65c_get_915e3 := by decide +kernel
  have hF : mm_fr [] M M := mm_fr.rf
  refine lv_iload_n hx hb dJx4a65c_get_915e3_0 rfl (lv_at hl 1 rfl) ?_
  refine lv_aload_n hx hb dJx4a65c_get_915e3_1 rfl (lv_at hl 0 rfl) ?_
  refine mm_get S hC hR (C := RJx4a65c) (T := TJx4a65c) (N := 3) (ref := "java/util/ArrayList") (v := .int (nI n)) 2 h1 inRJx4a65c rfl (by decide) (by decide +kernel) (fun _ h9 => h9) rfl dJx4a65c_get_915e3_2 ?_
  refine mm_calli hA hR (va_runS (As := [.int (nI i), .int (nI n)]) (rest := []) S (c_J15_checkIndex_7cf53 l G M _ i n hi (by omega)) (va_cwS 2 S.2.2.2.2 gJx4a65c_get_915e3_J15_checkIndex_7cf53 rfl rfl rfl (by decide +kernel) ⟨Nat.le_of_ble_eq_true rfl, Nat.le_of_ble_eq_true rfl⟩) (mm_preS hC hA hR _) rfl rfl hl.1 rfl (lv_room (Nat.le_of_ble_eq_true rfl)) dJx4a65c_get_915e3_5 ⟨Nat.le_of_ble_eq_true rfl, Nat.le_of_ble_eq_true rfl⟩) (fun r5 M6 H locs hp hR => ?_)
  obtain ⟨e1, ff⟩ := hp
  subst e1
  have h1 := ff.at h1 mm_n0
  have h2 := ff.at h2 mm_n0
  have hF := hF.tr ff mm_i0
  refine lv_pop hx hb dJx4a65c_get_915e3_8 rfl ?_
  refine lv_aload_n hx hb dJx4a65c_get_915e3_9 rfl (lv_at hl 0 rfl) ?_
  refine lv_iload_n hx hb dJx4a65c_get_915e3_10 rfl (lv_at hl 1 rfl) ?_
  refine mm_callq hA hR (va_runV (As := [.int (nI i)]) (rest := []) S (c_Jx4a65c_elementData_915e3 l G M6 _ Ls E n cap i mc f h1 h2 (by omega) hcap2) (cwV 1 S.2.2.2.2 gJx4a65c_get_915e3_Jx4a65c_elementData_915e3 rfl rfl rfl (by decide +kernel) ⟨Nat.le_of_ble_eq_true rfl, Nat.le_of_ble_eq_true rfl⟩) (mm_preV hC hA hR _ h1 rfl) rfl rfl hl.1 rfl (lv_room (Nat.le_of_ble_eq_true rfl)) dJx4a65c_get_915e3_11 ⟨Nat.le_of_ble_eq_true rfl, Nat.le_of_ble_eq_true rfl⟩) (fun r7 M8 H locs hp hR => ?_)
  obtain ⟨e1, ff⟩ := hp
  subst e1
  have h1 := ff.at h1 mm_n0
  have h2 := ff.at h2 mm_n0
  have hF := hF.tr ff mm_i0
  exact mm_aret (v := f i) S hr (Or.inl ⟨_, rfl⟩) hlocks hR ⟨rfl, hF⟩ dJx4a65c_get_915e3_14

set_option maxHeartbeats 4000000 in
set_option maxRecDepth 100000 in
theorem c_Jxa1e45_init_da8c8 (l : Launch) (G : mm_G) (M : mm_M) (sz : Nat) (Ls : Nat) (h1 : M Ls = some (ob 0 [.int (nI 0), .null, .int (nI 0)]))  : mm_v l yJxa1e45_init_da8c8 wsJxa1e45_init_da8c8 ({ frames := 1, cells := 0, slots := 0, locals := 12 } : Room) G ([.ref Ls] : List Value) M sz (fun M' => mm_fr [] M M') := by
  refine mm_enter (cc := cJxa1e45_init_da8c8) (maxL := 1) (ret := none) _ (by decide) rfl (Nat.le_of_ble_eq_true rfl) ?_
  intro p0 e0 s m0 be0 me0 c0 ls S hr hlocks hname hA hC hR hl
  have hx := S.1
  have hb := S.2.1
  have hl : lv_has ls 1 [(0, .ref Ls)] := hl
  have hF : mm_fr [] M M := mm_fr.rf
  refine lv_aload_n hx hb dJxa1e45_init_da8c8_0 rfl (lv_at hl 0 rfl) ?_
  refine W.objInit hx hb S.2.2.2.1 (S.2.2.2.2 (.methodLink RJxa1e45 1 objectInit) (by decide +kernel)) (S.2.2.2.2 (.instanceMethod objectInit) (by decide +kernel)) (S.2.2.2.2 (.code objectInit ⟨#[0xb1]⟩ 1 none) (by decide +kernel)) rfl (by rw [S.2.2.1]; exact hl.1) rfl dJxa1e45_init_da8c8_1 (Nat.le_of_ble_eq_true rfl) (Nat.le_of_ble_eq_true rfl) ?_
  refine W.eq (g2 := F0 m0 4 ls []) rfl ?_
  exact mm_vret S hr hlocks hR hF dJxa1e45_init_da8c8_4

set_option maxHeartbeats 4000000 in
set_option maxRecDepth 100000 in
theorem c_Jxc12de_init_da8c8 (l : Launch) (G : mm_G) (M : mm_M) (sz : Nat) (Ls : Nat) (h1 : M Ls = some (ob 0 [.int (nI 0), .null, .int (nI 0)]))  : mm_v l yJxc12de_init_da8c8 wsJxc12de_init_da8c8 ({ frames := 2, cells := 0, slots := 0, locals := 40 } : Room) G ([.ref Ls] : List Value) M sz (fun M' => M' Ls = some (ob 0 [.int (nI 0), .null, .int (nI 0)]) ∧ mm_fr [Ls] M M') := by
  refine mm_enter (cc := cJxc12de_init_da8c8) (maxL := 1) (ret := none) _ (by decide) rfl (Nat.le_of_ble_eq_true rfl) ?_
  intro p0 e0 s m0 be0 me0 c0 ls S hr hlocks hname hA hC hR hl
  have hx := S.1
  have hb := S.2.1
  have hl : lv_has ls 1 [(0, .ref Ls)] := hl
  have inRJx4a65c : ∀ w ∈ wsJx4a65c0, w ∈ wsJxc12de_init_da8c8 := by decide +kernel
  have hF : mm_fr [Ls] M M := mm_fr.rf
  refine lv_aload_n hx hb dJxc12de_init_da8c8_0 rfl (lv_at hl 0 rfl) ?_
  refine mm_callv hA hR (va_runI (As := []) (rest := []) S (c_Jxa1e45_init_da8c8 l G M _ Ls h1) (cwI 0 S.2.2.2.2 gJxc12de_init_da8c8_Jxa1e45_init_da8c8 rfl rfl rfl (S.2.2.2.2 (.initialized RJxa1e45) (by decide +kernel)) (S.2.2.2.2 (.methodLink RJxc12de 1 yJxa1e45_init_da8c8) (by decide +kernel)) (S.2.2.2.2 (.instanceMethod yJxa1e45_init_da8c8) (by decide +kernel)) rfl (by decide +kernel) ⟨Nat.le_of_ble_eq_true rfl, Nat.le_of_ble_eq_true rfl⟩) (mm_preS hC hA hR _) rfl rfl hl.1 rfl (lv_room (Nat.le_of_ble_eq_true rfl)) dJxc12de_init_da8c8_1 ⟨Nat.le_of_ble_eq_true rfl, Nat.le_of_ble_eq_true rfl⟩) (fun M10 H locs hp hR => ?_)
  have ff := hp
  have h1 := ff.at h1 mm_n0
  have hF := hF.tr ff mm_i0
  refine lv_aload_n hx hb dJxc12de_init_da8c8_4 rfl (lv_at hl 0 rfl) ?_
  refine lv_iconst (v := nI 0) hx hb dJxc12de_init_da8c8_5 (by decide) ?_
  refine mm_put S hC hR (C := RJx4a65c) (T := TJx4a65c) (N := 3) (ref := "java/util/AbstractList") 0 h1 inRJx4a65c rfl tyJx4a65c_ok nmJx4a65c (by decide) (by decide +kernel) (fun _ h9 => h9) rfl rfl rfl (Nat.le_of_ble_eq_true rfl) dJxc12de_init_da8c8_6 (fun H locs M11 g13 f12 hR => ?_)
  have h1 : M11 Ls = some (ob 0 [.int (nI 0), .null, .int (nI 0)]) := g13
  have hF := hF.tr f12 (mm_ic 0 rfl mm_i0)
  exact mm_vret S hr hlocks hR ⟨h1, hF⟩ dJxc12de_init_da8c8_9

set_option maxHeartbeats 4000000 in
set_option maxRecDepth 100000 in
theorem c_Jx4a65c_init_da8c8 (l : Launch) (G : mm_G) (M : mm_M) (sz : Nat) (Ls : Nat) (h1 : M Ls = some (ob 0 [.int (nI 0), .null, .int (nI 0)]))  : mm_v l yJx4a65c_init_da8c8 wsJx4a65c_init_da8c8 ({ frames := 3, cells := 0, slots := 0, locals := 70 } : Room) G ([.ref Ls] : List Value) M sz (fun M' => M' Ls = some (ob 0 [.int (nI 0), .ref G.2.2.2.2.1, .int (nI 0)]) ∧ mm_fr [Ls] M M') := by
  refine mm_enter (cc := cJx4a65c_init_da8c8) (maxL := 1) (ret := none) _ (by decide) rfl (Nat.le_of_ble_eq_true rfl) ?_
  intro p0 e0 s m0 be0 me0 c0 ls S hr hlocks hname hA hC hR hl
  have hx := S.1
  have hb := S.2.1
  have hl : lv_has ls 1 [(0, .ref Ls)] := hl
  have inRJx4a65c : ∀ w ∈ wsJx4a65c0, w ∈ wsJx4a65c_init_da8c8 := by decide +kernel
  have hF : mm_fr [Ls] M M := mm_fr.rf
  refine lv_aload_n hx hb dJx4a65c_init_da8c8_0 rfl (lv_at hl 0 rfl) ?_
  refine mm_callv hA hR (va_runI (As := []) (rest := []) S (c_Jxc12de_init_da8c8 l G M _ Ls h1) (cwI 0 S.2.2.2.2 gJx4a65c_init_da8c8_Jxc12de_init_da8c8 rfl rfl rfl (S.2.2.2.2 (.initialized RJxc12de) (by decide +kernel)) (S.2.2.2.2 (.methodLink RJx4a65c 1 yJxc12de_init_da8c8) (by decide +kernel)) (S.2.2.2.2 (.instanceMethod yJxc12de_init_da8c8) (by decide +kernel)) rfl (by decide +kernel) ⟨Nat.le_of_ble_eq_true rfl, Nat.le_of_ble_eq_true rfl⟩) (mm_preS hC hA hR _) rfl rfl hl.1 rfl (lv_room (Nat.le_of_ble_eq_true rfl)) dJx4a65c_init_da8c8_1 ⟨Nat.le_of_ble_eq_true rfl, Nat.le_of_ble_eq_true rfl⟩) (fun M15 H locs hp hR => ?_)
  obtain ⟨e1, ff⟩ := hp
  have h1 : M15 Ls = some (ob 0 [.int (nI 0), .null, .int (nI 0)]) := e1
  have hF := hF.tr ff (mm_ic 0 rfl mm_i0)
  refine lv_aload_n hx hb dJx4a65c_init_da8c8_4 rfl (lv_at hl 0 rfl) ?_
  refine mm_gempty S hC hR (by decide +kernel) dJx4a65c_init_da8c8_5 ?_
  refine mm_put S hC hR (C := RJx4a65c) (T := TJx4a65c) (N := 3) (ref := "java/util/ArrayList") 1 h1 inRJx4a65c rfl tyJx4a65c_ok nmJx4a65c (by decide) (by decide +kernel) (fun _ h9 => h9) rfl rfl rfl (Nat.le_of_ble_eq_true rfl) dJx4a65c_init_da8c8_8 (fun H locs M16 g18 f17 hR => ?_)
  have h1 : M16 Ls = some (ob 0 [.int (nI 0), .ref G.2.2.2.2.1, .int (nI 0)]) := g18
  have hF := hF.tr f17 (mm_ic 0 rfl mm_i0)
  exact mm_vret S hr hlocks hR ⟨h1, hF⟩ dJx4a65c_init_da8c8_11
