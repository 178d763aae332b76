/-! ===== ForkWatch$Mac ===== -/
/-- the key's bytes, with a side's number -/
def kb (x : Int32) (j : Nat) : Int32 := (if j < 32 then nI (j + 1) else nI 0) ^^^ x
def kcat (x : Int32) (r : Nat → Int32) : Nat → Int32 := fun j => if j < 64 then kb x j else r (j - 64)
/-- the 32 bytes that sign the first len bytes of r -/
def macb (len : Nat) (r : Nat → Int32) : Nat → Int32 := dgb 96 (kcat (nI 92) (dgb (64 + len) (kcat (nI 54) r)))
theorem kcat_lo {x : Int32} {r : Nat → Int32} {j : Nat} (h : j < 64) : kcat x r j = kb x j := if_pos h
theorem kcat_hi {x : Int32} {r : Nat → Int32} {j : Nat} : kcat x r (64 + j) = r j := by
  unfold kcat
  rw [if_neg (by omega), show 64 + j - 64 = j by omega]
/-- a Mac: itself, its Sha256, its row -/
def mcJ (G : mm_G) (M : mm_M) (mc h st w ins : Nat) : Prop := M mc = some (ob 3 [.ref h, .ref ins]) ∧ shJ G M h st w ∧ ∃ i0, M ins = some (ia G 32 i0)

set_option maxHeartbeats 4000000 in
set_option maxRecDepth 100000 in
/-- startWithKey(side) -/
theorem c_X2_startWithKey (l : Launch) (G : mm_G) (M : mm_M) (sz : Nat) (mc h st w ins : Nat) (a b : Int32) (f g : Nat → Int32) (x : Int32) (hm : M mc = some (ob 3 [.ref h, .ref ins])) (h1 : M h = some (ob 5 [.ref st, .ref w, .int a, .int b])) (h2 : M st = some (ia G 8 f)) (h3 : M w = some (ia G 64 g))  : mm_v l yX2_startWithKey wsX2_startWithKey ({ frames := 2, cells := 0, slots := 0, locals := 80 } : Room) G ([.ref mc, .int x] : List Value) M sz (fun M' => ∃ q : ShS, shA G M' h st w q 64 ∧ (∀ mm : Nat → Int32, (∀ j, j < 64 → mm j = kb x j) → shI mm 64 q) ∧ mm_fr [h, st, w] M M') := by
  refine mm_enter (cc := cX2_startWithKey) (maxL := 3) (ret := none) _ (by decide) rfl (Nat.le_of_ble_eq_true rfl) ?_
  intro p e s m below meth c ls S hr hlocks hname hA hC hR hl
  have hx := S.1
  have hb := S.2.1
  have hl : lv_has ls 3 [(0, .ref mc), (1, .int x)] := hl
  have inRX2 : ∀ w ∈ wsX20, w ∈ wsX2_startWithKey := by decide +kernel
  have inRX4 : ∀ w ∈ wsX40, w ∈ wsX2_startWithKey := by decide +kernel
  have hF : mm_fr [h, st, w] M M := mm_fr.rf
  refine lv_aload_n hx hb dX2_startWithKey_0 rfl (lv_at hl 0 rfl) ?_
  refine mm_get S hC hR (C := RX2) (T := TX2) (N := 2) (ref := "ForkWatch$Mac") (v := .ref h) 0 hm inRX2 rfl (by decide) (by decide +kernel) (fun _ h9 => h9) rfl dX2_startWithKey_1 ?_
  refine mm_callv hA hR (va_runV (As := []) (rest := []) S (c_X4_start l G M _ h st w f g a b h1 h2 h3) (cwV 0 S.2.2.2.2 gX2_startWithKey_X4_start rfl rfl rfl (by decide +kernel) ⟨Nat.le_of_ble_eq_true rfl, Nat.le_of_ble_eq_true rfl⟩) (mm_preV hC hA hR _ h1 rfl) rfl rfl hl.1 rfl (lv_room (Nat.le_of_ble_eq_true rfl)) dX2_startWithKey_4 ⟨Nat.le_of_ble_eq_true rfl, Nat.le_of_ble_eq_true rfl⟩) (fun M2 H locs hp hR => ?_)
  obtain ⟨q0, eq0⟩ : ∃ z : ShS, z = (va_cpy k_begin f 0 0 8, g, 0) := ⟨_, rfl⟩
  rw [← eq0] at hp
  obtain ⟨⟨a1, a2, a3, a4⟩, ff⟩ := hp
  have hm := ff.at hm (mm_nc (mm_neoo hm h1 (by decide)) (mm_nc (mm_neoi hm h2) (mm_nc (mm_neoi hm h3) mm_n0)))
  have h1 : M2 h = some (ob 5 [.ref st, .ref w, .int (nI q0.2.2), .int (nI 0)]) := a1
  have h2 : M2 st = some (ia G 8 q0.1) := a2
  have h3 : M2 w = some (ia G 64 q0.2.1) := a3
  have hF := hF.tr ff (mm_ic 0 rfl (mm_ic 1 rfl (mm_ic 2 rfl mm_i0)))
  refine lv_iconst (v := nI 0) hx hb dX2_startWithKey_7 (by decide) ?_
  refine lv_istore_n (lv' := [(2, .int (nI 0)), (0, .ref mc), (1, .int x)]) hx hb dX2_startWithKey_8 rfl hl (by decide) rfl (fun ls hl => ?_)
  have loop : ∀ (n i : Nat) (M1 : mm_M) (H : Heap) (locs : List Loc) (ls : Array Slot), 64 < i + n → i ≤ 64 → M1 mc = some (ob 3 [.ref h, .ref ins]) → shA G M1 h st w (sh_takes q0 (kb x) i) i → mm_fr [h, st, w] M M1 → mm_R G s (mm_A M sz) M1 H locs → lv_has ls 3 [(0, .ref mc), (1, .int x), (2, .int (nI i))] → W p l e ({ frames := 2, cells := 0, slots := 0, locals := 80 } : Room) s m ([.ref mc, .int x] : List Value).toArray below meth c H locs 0 0 (MQ below (va_Qv (fun M' => ∃ q : ShS, shA G M' h st w q 64 ∧ (∀ mm : Nat → Int32, (∀ j, j < 64 → mm j = kb x j) → shI mm 64 q) ∧ mm_fr [h, st, w] M M') (fun M' t => mm_H G (mm_A M sz) M' t.heap) (mm_A M sz)) ([.ref mc, .int x] : List Value).toArray s 0 0 (mm_A M sz)) (F0 m 9 ls []) := by
    intro n
    induction n with
    | zero =>
      intro i M1 H locs ls hn hi hm hs hF hR hl
      omega
    | succ n ih =>
      intro i M1 H locs ls hn hi hm hs hF hR hl
      obtain ⟨qi, eqi⟩ : ∃ z : ShS, z = sh_takes q0 (kb x) i := ⟨_, rfl⟩
      rw [← eqi] at hs
      obtain ⟨h1, h2, h3, hq⟩ := hs
      refine lv_iload_n hx hb dX2_startWithKey_9 rfl (lv_at hl 2 rfl) ?_
      refine lv_bipush (v := nI 64) hx hb dX2_startWithKey_10 (by decide) ?_
      refine lv_icmp_ge (tgt := 43) hx hb dX2_startWithKey_12 (by decide) (fun c3 => ?_) (fun c3 => ?_)
      · have c3 : 64 ≤ i := (nI_leI (by omega) (by omega)).mp c3
        have e4 : i = 64 := by omega
        subst e4
        exact mm_vret S hr hlocks hR ⟨qi, ⟨h1, h2, h3, hq⟩, fun mm hmm => by rw [eqi, eq0]; exact shI_n shI_0 64 (fun j hj => by rw [Nat.zero_add]; exact (hmm j hj).symm), hF⟩ dX2_startWithKey_43
      · have c3 : ¬ (64 ≤ i) := fun z => c3 ((nI_leI (by omega) (by omega)).mpr z)
        refine lv_aload_n hx hb dX2_startWithKey_15 rfl (lv_at hl 0 rfl) ?_
        refine mm_get S hC hR (C := RX2) (T := TX2) (N := 2) (ref := "ForkWatch$Mac") (v := .ref h) 0 hm inRX2 rfl (by decide) (by decide +kernel) (fun _ h9 => h9) rfl dX2_startWithKey_16 ?_
        refine lv_iload_n hx hb dX2_startWithKey_19 rfl (lv_at hl 2 rfl) ?_
        refine lv_bipush (v := nI 32) hx hb dX2_startWithKey_20 (by decide) ?_
        refine lv_icmp_ge (tgt := 31) hx hb dX2_startWithKey_22 (by decide) (fun c2 => ?_) (fun c2 => ?_)
        · have c2 : 32 ≤ i := (nI_leI (by omega) (by omega)).mp c2
          have ekb : kb x i = nI 0 ^^^ x := by unfold kb; rw [if_neg (by omega)]
          refine lv_iconst (v := nI 0) hx hb dX2_startWithKey_31 (by decide) ?_
          refine lv_iload_n hx hb dX2_startWithKey_32 rfl (lv_at hl 1 rfl) ?_
          refine lv_ixor hx hb dX2_startWithKey_33 ?_
          refine mm_callv hA hR (va_runV (As := [.int ((nI 0) ^^^ x)]) (rest := []) S (c_X4_take l G M1 H.size h st w qi i (nI 0 ^^^ x) h1 h2 h3 hq) (cwV 1 S.2.2.2.2 gX2_startWithKey_X4_take rfl rfl rfl (by decide +kernel) ⟨Nat.le_of_ble_eq_true rfl, Nat.le_of_ble_eq_true rfl⟩) (mm_preV hC hA hR _ h1 rfl) rfl rfl hl.1 rfl (lv_room (Nat.le_of_ble_eq_true rfl)) dX2_startWithKey_34 ⟨Nat.le_of_ble_eq_true rfl, Nat.le_of_ble_eq_true rfl⟩) (fun M5 H locs hp hR => ?_)
          obtain ⟨⟨a1, a2, a3, a4⟩, ff⟩ := hp
          have hm := ff.at hm (mm_nc (mm_neoo hm h1 (by decide)) (mm_nc (mm_neoi hm h2) (mm_nc (mm_neoi hm h3) mm_n0)))
          have h1 : M5 h = some (ob 5 [.ref st, .ref w, .int (nI ((sh_take qi (nI 0 ^^^ x)).2.2)), .int (nI (i + 1))]) := a1
          have h2 : M5 st = some (ia G 8 ((sh_take qi (nI 0 ^^^ x)).1)) := a2
          have h3 : M5 w = some (ia G 64 ((sh_take qi (nI 0 ^^^ x)).2.1)) := a3
          have hF := hF.tr ff (mm_ic 0 rfl (mm_ic 1 rfl (mm_ic 2 rfl mm_i0)))
          refine lv_iinc (v := (nI (i + 1))) (lv' := [(2, .int (nI (i + 1))), (0, .ref mc), (1, .int x)]) hx hb dX2_startWithKey_37 hl (k := 2) rfl (by rw [show Int32.ofInt 1 = nI 1 from by decide]; exact nI_add _ _) (by decide) rfl (fun ls hl => ?_)
          refine lv_goto (tgt := 9) hx hb dX2_startWithKey_40 (by decide) ?_
          exact ih (i + 1) _ H locs ls (by omega) (by omega) hm (by show shA G _ h st w (sh_take (sh_takes q0 (kb x) i) (kb x i)) (i + 1); rw [← eqi, ekb]; exact ⟨h1, h2, h3, a4⟩) hF hR (lv_sub hl [1, 2, 0] rfl)
        · have c2 : ¬ (32 ≤ i) := fun z => c2 ((nI_leI (by omega) (by omega)).mpr z)
          have ekb : kb x i = nI (i + 1) ^^^ x := by unfold kb; rw [if_pos (by omega)]
          refine lv_iload_n hx hb dX2_startWithKey_25 rfl (lv_at hl 2 rfl) ?_
          refine lv_iconst (v := nI 1) hx hb dX2_startWithKey_26 (by decide) ?_
          refine lv_iadd hx hb dX2_startWithKey_27 ?_
          refine mm_eqi (nI_add _ _) ?_
          refine lv_goto (tgt := 32) hx hb dX2_startWithKey_28 (by decide) ?_
          refine lv_iload_n hx hb dX2_startWithKey_32 rfl (lv_at hl 1 rfl) ?_
          refine lv_ixor hx hb dX2_startWithKey_33 ?_
          refine mm_callv hA hR (va_runV (As := [.int ((nI (i + 1)) ^^^ x)]) (rest := []) S (c_X4_take l G M1 H.size h st w qi i (nI (i + 1) ^^^ x) h1 h2 h3 hq) (cwV 1 S.2.2.2.2 gX2_startWithKey_X4_take rfl rfl rfl (by decide +kernel) ⟨Nat.le_of_ble_eq_true rfl, Nat.le_of_ble_eq_true rfl⟩) (mm_preV hC hA hR _ h1 rfl) rfl rfl hl.1 rfl (lv_room (Nat.le_of_ble_eq_true rfl)) dX2_startWithKey_34 ⟨Nat.le_of_ble_eq_true rfl, Nat.le_of_ble_eq_true rfl⟩) (fun M7 H locs hp hR => ?_)
          obtain ⟨⟨a1, a2, a3, a4⟩, ff⟩ := hp
          have hm := ff.at hm (mm_nc (mm_neoo hm h1 (by decide)) (mm_nc (mm_neoi hm h2) (mm_nc (mm_neoi hm h3) mm_n0)))
          have h1 : M7 h = some (ob 5 [.ref st, .ref w, .int (nI ((sh_take qi (nI (i + 1) ^^^ x)).2.2)), .int (nI (i + 1))]) := a1
          have h2 : M7 st = some (ia G 8 ((sh_take qi (nI (i + 1) ^^^ x)).1)) := a2
          have h3 : M7 w = some (ia G 64 ((sh_take qi (nI (i + 1) ^^^ x)).2.1)) := a3
          have hF := hF.tr ff (mm_ic 0 rfl (mm_ic 1 rfl (mm_ic 2 rfl mm_i0)))
          refine lv_iinc (v := (nI (i + 1))) (lv' := [(2, .int (nI (i + 1))), (0, .ref mc), (1, .int x)]) hx hb dX2_startWithKey_37 hl (k := 2) rfl (by rw [show Int32.ofInt 1 = nI 1 from by decide]; exact nI_add _ _) (by decide) rfl (fun ls hl => ?_)
          refine lv_goto (tgt := 9) hx hb dX2_startWithKey_40 (by decide) ?_
          exact ih (i + 1) _ H locs ls (by omega) (by omega) hm (by show shA G _ h st w (sh_take (sh_takes q0 (kb x) i) (kb x i)) (i + 1); rw [← eqi, ekb]; exact ⟨h1, h2, h3, a4⟩) hF hR (lv_sub hl [1, 2, 0] rfl)
  exact loop 65 0 _ _ _ ls (by omega) (by omega) hm ⟨h1, h2, h3, a4⟩ hF hR (lv_sub hl [1, 2, 0] rfl)

set_option maxHeartbeats 4000000 in
set_option maxRecDepth 100000 in
/-- make(bytes, length, out, at) -/
theorem c_X2_make (l : Launch) (G : mm_G) (M : mm_M) (sz : Nat) (mc h st w ins y o k ko len at_ : Nat) (a b : Int32) (f g i0 r ro : Nat → Int32) (hm : M mc = some (ob 3 [.ref h, .ref ins])) (h1 : M h = some (ob 5 [.ref st, .ref w, .int a, .int b])) (h2 : M st = some (ia G 8 f)) (h3 : M w = some (ia G 64 g)) (h4 : M ins = some (ia G 32 i0)) (h5 : M y = some (ia G k r)) (h6 : M o = some (ia G ko ro)) (hk : k < 2 ^ 31) (hlen : len ≤ k) (hko : ko < 2 ^ 31) (hat : at_ + 32 ≤ ko) (n1 : y ≠ st) (n2 : y ≠ w) (n3 : y ≠ ins) (n4 : o ≠ st) (n5 : o ≠ w) (n6 : o ≠ ins) : mm_v l yX2_make wsX2_make ({ frames := 3, cells := 0, slots := 0, locals := 110 } : Room) G ([.ref mc, .ref y, .int (nI len), .ref o, .int (nI at_)] : List Value) M sz (fun M' => M' o = some (ia G ko (va_cpy (macb len r) ro 0 at_ 32)) ∧ mcJ G M' mc h st w ins ∧ mm_fr [h, st, w, ins, o] M M') := by
  refine mm_enter (cc := cX2_make) (maxL := 5) (ret := none) _ (by decide) rfl (Nat.le_of_ble_eq_true rfl) ?_
  intro p e s m below meth c ls S hr hlocks hname hA hC hR hl
  have hx := S.1
  have hb := S.2.1
  have hl : lv_has ls 5 [(0, .ref mc), (1, .ref y), (2, .int (nI len)), (3, .ref o), (4, .int (nI at_))] := hl
  have inRX2 : ∀ w ∈ wsX20, w ∈ wsX2_make := by decide +kernel
  have inRX4 : ∀ w ∈ wsX40, w ∈ wsX2_make := by decide +kernel
  have hF : mm_fr [h, st, w, ins, o] M M := mm_fr.rf
  have d_mc_h : mc ≠ h := mm_neoo hm h1 (by decide)
  have d_mc_st : mc ≠ st := mm_neoi hm h2
  have d_mc_w : mc ≠ w := mm_neoi hm h3
  have d_mc_ins : mc ≠ ins := mm_neoi hm h4
  have d_mc_o : mc ≠ o := mm_neoi hm h6
  have d_h_ins : h ≠ ins := mm_neoi h1 h4
  have d_h_o : h ≠ o := mm_neoi h1 h6
  have d_h_y : h ≠ y := mm_neoi h1 h5
  have d_ins_st : ins ≠ st := mm_nelen h4 h2 (by decide)
  have d_ins_w : ins ≠ w := mm_nelen h4 h3 (by decide)
  refine lv_aload_n hx hb dX2_make_0 rfl (lv_at hl 0 rfl) ?_
  refine lv_bipush (v := nI 54) hx hb dX2_make_1 (by decide) ?_
  refine mm_callv hA hR (va_runV (As := [.int (nI 54)]) (rest := []) S (c_X2_startWithKey l G M _ mc h st w ins _ _ _ _ (nI 54) hm h1 h2 h3) (cwV 1 S.2.2.2.2 gX2_make_X2_startWithKey rfl rfl rfl (by decide +kernel) ⟨Nat.le_of_ble_eq_true rfl, Nat.le_of_ble_eq_true rfl⟩) (mm_preV hC hA hR _ hm rfl) rfl rfl hl.1 rfl (lv_room (Nat.le_of_ble_eq_true rfl)) dX2_make_3 ⟨Nat.le_of_ble_eq_true rfl, Nat.le_of_ble_eq_true rfl⟩) (fun M9 H locs hp hR => ?_)
  obtain ⟨p1, ⟨a1, a2, a3, a4⟩, hI1, ff⟩ := hp
  have hm := ff.at hm (mm_nc d_mc_h (mm_nc d_mc_st (mm_nc d_mc_w mm_n0)))
  have h4 := ff.at h4 (mm_nc (Ne.symm d_h_ins) (mm_nc d_ins_st (mm_nc d_ins_w mm_n0)))
  have h5 := ff.at h5 (mm_nc (Ne.symm d_h_y) (mm_nc n1 (mm_nc n2 mm_n0)))
  have h6 := ff.at h6 (mm_nc (Ne.symm d_h_o) (mm_nc n4 (mm_nc n5 mm_n0)))
  have h1 : M9 h = some (ob 5 [.ref st, .ref w, .int (nI p1.2.2), .int (nI 64)]) := a1
  have h2 : M9 st = some (ia G 8 p1.1) := a2
  have h3 : M9 w = some (ia G 64 p1.2.1) := a3
  have hF := hF.tr ff (mm_ic 0 rfl (mm_ic 1 rfl (mm_ic 2 rfl mm_i0)))
  refine lv_aload_n hx hb dX2_make_6 rfl (lv_at hl 0 rfl) ?_
  refine mm_get S hC hR (C := RX2) (T := TX2) (N := 2) (ref := "ForkWatch$Mac") (v := .ref h) 0 hm inRX2 rfl (by decide) (by decide +kernel) (fun _ h9 => h9) rfl dX2_make_7 ?_
  refine lv_aload_n hx hb dX2_make_10 rfl (lv_at hl 1 rfl) ?_
  refine lv_iconst (v := nI 0) hx hb dX2_make_11 (by decide) ?_
  refine lv_iload_n hx hb dX2_make_12 rfl (lv_at hl 2 rfl) ?_
  have j1 := hI1 (padm (64 + len) (kcat (nI 54) r)) (fun j hj => by rw [padm_lt (by omega)]; exact kcat_lo hj)
  refine mm_callv hA hR (va_runV (As := [.ref y, .int (nI 0), .int (nI len)]) (rest := []) S (c_X4_takeRow l G M9 _ h st w y k p1 64 0 len r h1 h2 h3 h5 a4 (by omega) hk n1 n2) (cwV 3 S.2.2.2.2 gX2_make_X4_takeRow rfl rfl rfl (by decide +kernel) ⟨Nat.le_of_ble_eq_true rfl, Nat.le_of_ble_eq_true rfl⟩) (mm_preV hC hA hR _ h1 rfl) rfl rfl hl.1 rfl (lv_room (Nat.le_of_ble_eq_true rfl)) dX2_make_13 ⟨Nat.le_of_ble_eq_true rfl, Nat.le_of_ble_eq_true rfl⟩) (fun M11 H locs hp hR => ?_)
  obtain ⟨⟨b1, b2, b3, b4⟩, ff⟩ := hp
  have hm := ff.at hm (mm_nc d_mc_h (mm_nc d_mc_st (mm_nc d_mc_w mm_n0)))
  have h4 := ff.at h4 (mm_nc (Ne.symm d_h_ins) (mm_nc d_ins_st (mm_nc d_ins_w mm_n0)))
  have h5 := ff.at h5 (mm_nc (Ne.symm d_h_y) (mm_nc n1 (mm_nc n2 mm_n0)))
  have h6 := ff.at h6 (mm_nc (Ne.symm d_h_o) (mm_nc n4 (mm_nc n5 mm_n0)))
  have h1 : M11 h = some (ob 5 [.ref st, .ref w, .int (nI ((sh_takes p1 (fun j => r (0 + j)) len).2.2)), .int (nI (64 + len))]) := b1
  have h2 : M11 st = some (ia G 8 ((sh_takes p1 (fun j => r (0 + j)) len).1)) := b2
  have h3 : M11 w = some (ia G 64 ((sh_takes p1 (fun j => r (0 + j)) len).2.1)) := b3
  have hF := hF.tr ff (mm_ic 0 rfl (mm_ic 1 rfl (mm_ic 2 rfl mm_i0)))
  have j2 := shI_n (r := fun j => r (0 + j)) j1 len (fun j hj => by rw [padm_lt (by omega), kcat_hi, Nat.zero_add])
  obtain ⟨p2, ep2⟩ : ∃ z : ShS, z = sh_takes p1 (fun j => r (0 + j)) len := ⟨_, rfl⟩
  rw [← ep2] at j2 b4 h1 h2 h3
  refine lv_aload_n hx hb dX2_make_16 rfl (lv_at hl 0 rfl) ?_
  refine mm_get S hC hR (C := RX2) (T := TX2) (N := 2) (ref := "ForkWatch$Mac") (v := .ref h) 0 hm inRX2 rfl (by decide) (by decide +kernel) (fun _ h9 => h9) rfl dX2_make_17 ?_
  refine lv_aload_n hx hb dX2_make_20 rfl (lv_at hl 0 rfl) ?_
  refine mm_get S hC hR (C := RX2) (T := TX2) (N := 2) (ref := "ForkWatch$Mac") (v := .ref ins) 1 hm inRX2 rfl (by decide) (by decide +kernel) (fun _ h9 => h9) rfl dX2_make_21 ?_
  refine lv_iconst (v := nI 0) hx hb dX2_make_24 (by decide) ?_
  refine mm_callv hA hR (va_runV (As := [.ref ins, .int (nI 0)]) (rest := []) S (c_X4_finish l G M11 _ h st w ins 32 p2 (64 + len) 0 i0 h1 h2 h3 h4 b4 (by omega) (by decide) d_ins_st d_ins_w) (cwV 2 S.2.2.2.2 gX2_make_X4_finish rfl rfl rfl (by decide +kernel) ⟨Nat.le_of_ble_eq_true rfl, Nat.le_of_ble_eq_true rfl⟩) (mm_preV hC hA hR _ h1 rfl) rfl rfl hl.1 rfl (lv_room (Nat.le_of_ble_eq_true rfl)) dX2_make_25 ⟨Nat.le_of_ble_eq_true rfl, Nat.le_of_ble_eq_true rfl⟩) (fun M13 H locs hp hR => ?_)
  obtain ⟨e4, ⟨f2, g2, a2, b2, e1, e2, e3⟩, ff⟩ := hp
  rw [dg_I j2] at e4
  have hm := ff.at hm (mm_nc d_mc_h (mm_nc d_mc_st (mm_nc d_mc_w (mm_nc d_mc_ins mm_n0))))
  have h5 := ff.at h5 (mm_nc (Ne.symm d_h_y) (mm_nc n1 (mm_nc n2 (mm_nc n3 mm_n0))))
  have h6 := ff.at h6 (mm_nc (Ne.symm d_h_o) (mm_nc n4 (mm_nc n5 (mm_nc n6 mm_n0))))
  have h1 : M13 h = some (ob 5 [.ref st, .ref w, .int a2, .int b2]) := e1
  have h2 : M13 st = some (ia G 8 f2) := e2
  have h3 : M13 w = some (ia G 64 g2) := e3
  have h4 : M13 ins = some (ia G 32 (va_cpy (dgb (64 + len) (kcat (nI 54) r)) i0 0 0 32)) := e4
  have hF := hF.tr ff (mm_ic 0 rfl (mm_ic 1 rfl (mm_ic 2 rfl (mm_ic 3 rfl mm_i0))))
  refine lv_aload_n hx hb dX2_make_28 rfl (lv_at hl 0 rfl) ?_
  refine lv_bipush (v := nI 92) hx hb dX2_make_29 (by decide) ?_
  refine mm_callv hA hR (va_runV (As := [.int (nI 92)]) (rest := []) S (c_X2_startWithKey l G M13 _ mc h st w ins _ _ _ _ (nI 92) hm h1 h2 h3) (cwV 1 S.2.2.2.2 gX2_make_X2_startWithKey rfl rfl rfl (by decide +kernel) ⟨Nat.le_of_ble_eq_true rfl, Nat.le_of_ble_eq_true rfl⟩) (mm_preV hC hA hR _ hm rfl) rfl rfl hl.1 rfl (lv_room (Nat.le_of_ble_eq_true rfl)) dX2_make_31 ⟨Nat.le_of_ble_eq_true rfl, Nat.le_of_ble_eq_true rfl⟩) (fun M15 H locs hp hR => ?_)
  obtain ⟨p2, ⟨a1, a2, a3, a4⟩, hI2, ff⟩ := hp
  have hm := ff.at hm (mm_nc d_mc_h (mm_nc d_mc_st (mm_nc d_mc_w mm_n0)))
  have h4 := ff.at h4 (mm_nc (Ne.symm d_h_ins) (mm_nc d_ins_st (mm_nc d_ins_w mm_n0)))
  have h5 := ff.at h5 (mm_nc (Ne.symm d_h_y) (mm_nc n1 (mm_nc n2 mm_n0)))
  have h6 := ff.at h6 (mm_nc (Ne.symm d_h_o) (mm_nc n4 (mm_nc n5 mm_n0)))
  have h1 : M15 h = some (ob 5 [.ref st, .ref w, .int (nI p2.2.2), .int (nI 64)]) := a1
  have h2 : M15 st = some (ia G 8 p2.1) := a2
  have h3 : M15 w = some (ia G 64 p2.2.1) := a3
  have hF := hF.tr ff (mm_ic 0 rfl (mm_ic 1 rfl (mm_ic 2 rfl mm_i0)))
  have j3 := hI2 (padm (64 + 32) (kcat (nI 92) (dgb (64 + len) (kcat (nI 54) r)))) (fun j hj => by rw [padm_lt (by omega)]; exact kcat_lo hj)
  refine lv_aload_n hx hb dX2_make_34 rfl (lv_at hl 0 rfl) ?_
  refine mm_get S hC hR (C := RX2) (T := TX2) (N := 2) (ref := "ForkWatch$Mac") (v := .ref h) 0 hm inRX2 rfl (by decide) (by decide +kernel) (fun _ h9 => h9) rfl dX2_make_35 ?_
  refine lv_aload_n hx hb dX2_make_38 rfl (lv_at hl 0 rfl) ?_
  refine mm_get S hC hR (C := RX2) (T := TX2) (N := 2) (ref := "ForkWatch$Mac") (v := .ref ins) 1 hm inRX2 rfl (by decide) (by decide +kernel) (fun _ h9 => h9) rfl dX2_make_39 ?_
  refine lv_iconst (v := nI 0) hx hb dX2_make_42 (by decide) ?_
  refine lv_bipush (v := nI 32) hx hb dX2_make_43 (by decide) ?_
  refine mm_callv hA hR (va_runV (As := [.ref ins, .int (nI 0), .int (nI 32)]) (rest := []) S (c_X4_takeRow l G M15 _ h st w ins 32 p2 64 0 32 (va_cpy (dgb (64 + len) (kcat (nI 54) r)) i0 0 0 32) h1 h2 h3 h4 a4 (by omega) (by decide) d_ins_st d_ins_w) (cwV 3 S.2.2.2.2 gX2_make_X4_takeRow rfl rfl rfl (by decide +kernel) ⟨Nat.le_of_ble_eq_true rfl, Nat.le_of_ble_eq_true rfl⟩) (mm_preV hC hA hR _ h1 rfl) rfl rfl hl.1 rfl (lv_room (Nat.le_of_ble_eq_true rfl)) dX2_make_45 ⟨Nat.le_of_ble_eq_true rfl, Nat.le_of_ble_eq_true rfl⟩) (fun M17 H locs hp hR => ?_)
  obtain ⟨⟨c1, c2, c3, c4⟩, ff⟩ := hp
  have hm := ff.at hm (mm_nc d_mc_h (mm_nc d_mc_st (mm_nc d_mc_w mm_n0)))
  have h4 := ff.at h4 (mm_nc (Ne.symm d_h_ins) (mm_nc d_ins_st (mm_nc d_ins_w mm_n0)))
  have h5 := ff.at h5 (mm_nc (Ne.symm d_h_y) (mm_nc n1 (mm_nc n2 mm_n0)))
  have h6 := ff.at h6 (mm_nc (Ne.symm d_h_o) (mm_nc n4 (mm_nc n5 mm_n0)))
  have h1 : M17 h = some (ob 5 [.ref st, .ref w, .int (nI ((sh_takes p2 (fun j => va_cpy (dgb (64 + len) (kcat (nI 54) r)) i0 0 0 32 (0 + j)) 32).2.2)), .int (nI (64 + 32))]) := c1
  have h2 : M17 st = some (ia G 8 ((sh_takes p2 (fun j => va_cpy (dgb (64 + len) (kcat (nI 54) r)) i0 0 0 32 (0 + j)) 32).1)) := c2
  have h3 : M17 w = some (ia G 64 ((sh_takes p2 (fun j => va_cpy (dgb (64 + len) (kcat (nI 54) r)) i0 0 0 32 (0 + j)) 32).2.1)) := c3
  have hF := hF.tr ff (mm_ic 0 rfl (mm_ic 1 rfl (mm_ic 2 rfl mm_i0)))
  have j4 := shI_n (r := fun j => va_cpy (dgb (64 + len) (kcat (nI 54) r)) i0 0 0 32 (0 + j)) j3 32 (fun j hj => by rw [padm_lt (by omega), kcat_hi]; unfold va_cpy; rw [if_pos (by omega)]; congr 1; omega)
  obtain ⟨p3, ep3⟩ : ∃ z : ShS, z = sh_takes p2 (fun j => va_cpy (dgb (64 + len) (kcat (nI 54) r)) i0 0 0 32 (0 + j)) 32 := ⟨_, rfl⟩
  rw [← ep3] at j4 c4 h1 h2 h3
  refine lv_aload_n hx hb dX2_make_48 rfl (lv_at hl 0 rfl) ?_
  refine mm_get S hC hR (C := RX2) (T := TX2) (N := 2) (ref := "ForkWatch$Mac") (v := .ref h) 0 hm inRX2 rfl (by decide) (by decide +kernel) (fun _ h9 => h9) rfl dX2_make_49 ?_
  refine lv_aload_n hx hb dX2_make_52 rfl (lv_at hl 3 rfl) ?_
  refine lv_iload hx hb dX2_make_53 (lv_at hl 4 rfl) ?_
  refine mm_callv hA hR (va_runV (As := [.ref o, .int (nI at_)]) (rest := []) S (c_X4_finish l G M17 _ h st w o ko p3 (64 + 32) at_ ro h1 h2 h3 h6 c4 (by omega) hko n4 n5) (cwV 2 S.2.2.2.2 gX2_make_X4_finish rfl rfl rfl (by decide +kernel) ⟨Nat.le_of_ble_eq_true rfl, Nat.le_of_ble_eq_true rfl⟩) (mm_preV hC hA hR _ h1 rfl) rfl rfl hl.1 rfl (lv_room (Nat.le_of_ble_eq_true rfl)) dX2_make_55 ⟨Nat.le_of_ble_eq_true rfl, Nat.le_of_ble_eq_true rfl⟩) (fun M19 H locs hp hR => ?_)
  obtain ⟨e6, ⟨f3, g3, a3, b3, e1, e2, e3⟩, ff⟩ := hp
  rw [dg_I j4] at e6
  have hm := ff.at hm (mm_nc d_mc_h (mm_nc d_mc_st (mm_nc d_mc_w (mm_nc d_mc_o mm_n0))))
  have h4 := ff.at h4 (mm_nc (Ne.symm d_h_ins) (mm_nc d_ins_st (mm_nc d_ins_w (mm_nc (Ne.symm n6) mm_n0))))
  have h1 : M19 h = some (ob 5 [.ref st, .ref w, .int a3, .int b3]) := e1
  have h2 : M19 st = some (ia G 8 f3) := e2
  have h3 : M19 w = some (ia G 64 g3) := e3
  have h6 : M19 o = some (ia G ko (va_cpy (macb len r) ro 0 at_ 32)) := e6
  have hF := hF.tr ff (mm_ic 0 rfl (mm_ic 1 rfl (mm_ic 2 rfl (mm_ic 4 rfl mm_i0))))
  exact mm_vret S hr hlocks hR ⟨h6, ⟨hm, ⟨_, _, _, _, h1, h2, h3⟩, _, h4⟩, hF⟩ dX2_make_58

set_option maxHeartbeats 4000000 in
set_option maxRecDepth 100000 in
/-- Mac() -/
theorem c_X2_init (l : Launch) (G : mm_G) (M : mm_M) (sz : Nat) (mc : Nat) (hm : M mc = some (ob 3 [.null, .null]))  : mm_v l yX2_init wsX2_init ({ frames := 2, cells := 4, slots := 108, locals := 40 } : Room) G ([.ref mc] : List Value) M sz (fun M' => ∃ h st w ins, M h = none ∧ M st = none ∧ M w = none ∧ M ins = none ∧ st ≠ w ∧ st ≠ ins ∧ w ≠ ins ∧ mcJ G M' mc h st w ins ∧ mm_fr [mc] M M') := by
  refine mm_enter (cc := cX2_init) (maxL := 1) (ret := none) _ (by decide) rfl (Nat.le_of_ble_eq_true rfl) ?_
  intro p e s m below meth c ls S hr hlocks hname hA hC hR hl
  have hx := S.1
  have hb := S.2.1
  have hl : lv_has ls 1 [(0, .ref mc)] := hl
  have hin : meth.name = "<init>" := hname
  have inRX2 : ∀ w ∈ wsX20, w ∈ wsX2_init := by decide +kernel
  have inRX4 : ∀ w ∈ wsX40, w ∈ wsX2_init := by decide +kernel
  have hF : mm_fr [mc] M M := mm_fr.rf
  refine lv_aload_n hx hb dX2_init_0 rfl (lv_at hl 0 rfl) ?_
  refine W.objInit hx hb S.2.2.2.1 (S.2.2.2.2 (.methodLink RX2 3 objectInit) (by decide +kernel)) (S.2.2.2.2 (.instanceMethod objectInit) (by decide +kernel)) (S.2.2.2.2 (.code objectInit ⟨#[0xb1]⟩ 1 none) (by decide +kernel)) rfl (by rw [S.2.2.1]; exact hl.1) rfl dX2_init_1 (Nat.le_of_ble_eq_true rfl) (Nat.le_of_ble_eq_true rfl) ?_
  refine W.eq (g2 := F0 m 4 ls []) rfl ?_
  refine lv_aload_n hx hb dX2_init_4 rfl (lv_at hl 0 rfl) ?_
  refine mm_new (fs := [.null, .null, .int (nI 0), .int (nI 0)]) S hC hA hR (C := RX4) (T := TX4) (N := 4) (ci := 5) inRX4 rfl tyX4_ok (by decide +kernel) (by decide +kernel) (by decide +kernel) (fun j hj => by rcases (show j = 0 ∨ j = 1 ∨ j = 2 ∨ j = 3 by omega) with rfl | rfl | rfl | rfl <;> rfl) (Nat.le_of_ble_eq_true rfl) (Nat.le_of_ble_eq_true rfl) dX2_init_5 (fun h H M20 z22 h1 f21 hR => ?_)
  have n_mc_h : mc ≠ h := mm_nenew hm z22
  have nn_h : M h = none := hF.none z22 (mm_oc hm mm_o0)
  have hm := f21.at hm mm_n0
  have h1 : M20 h = some (ob 5 [.null, .null, .int (nI 0), .int (nI 0)]) := h1
  have hF := hF.tr f21 mm_i0
  refine lv_dup hx hb dX2_init_8 rfl ?_
  refine mm_callv hA hR (va_runIN (As := []) (rest := [.ref h, .ref mc]) S (c_X4_init l G M20 _ h h1) ⟨va_cnB 0 S.2.2.2.2 gX2_init_X4_init_n11 rfl rfl rfl (hC.2.2.2.2.2 (.methodLinkNest RX2 11 yX4_init "ForkWatch") (by decide +kernel)) (S.2.2.2.2 (.initialized RX4) (by decide +kernel)) (by decide +kernel) ⟨Nat.le_of_ble_eq_true rfl, Nat.le_of_ble_eq_true rfl⟩, rfl, S.2.2.2.2 (.instanceMethod yX4_init) (by decide +kernel)⟩ (mm_preS hC hA hR _) rfl rfl hl.1 rfl (lv_room (Nat.le_of_ble_eq_true rfl)) dX2_init_9 ⟨Nat.le_of_ble_eq_true rfl, Nat.le_of_ble_eq_true rfl⟩) (fun M24 H locs hp hR => ?_)
  obtain ⟨st, w, y1, y2, ⟨a1, a2, a3, a4⟩, ff⟩ := hp
  have n_mc_st : mc ≠ st := mm_nenew hm y1
  have n_mc_w : mc ≠ w := mm_nenew hm y2
  have nn_st : M st = none := hF.none y1 (mm_oc hm mm_o0)
  have nn_w : M w = none := hF.none y2 (mm_oc hm mm_o0)
  have hm := ff.at hm (mm_nc n_mc_h mm_n0)
  have h1 : M24 h = some (ob 5 [.ref st, .ref w, .int (nI 0), .int (nI 0)]) := a1
  have h2 : M24 st = some (ia G 8 (fun _ => 0)) := a2
  have h3 : M24 w = some (ia G 64 (fun _ => 0)) := a3
  have hF := hF.tr ff (mm_in nn_h mm_i0)
  refine mm_putF S hC hR (C := RX2) (T := TX2) (N := 2) (ref := "ForkWatch$Mac") 0 hm inRX2 rfl tyX2_ok nmX2 (by decide) (by decide +kernel) (fun _ h9 => h9) rfl hin rfl rfl rfl (Nat.le_of_ble_eq_true rfl) dX2_init_12 (fun H locs M25 g27 f26 hR => ?_)
  have h1 := f26.at h1 (mm_nc (Ne.symm n_mc_h) mm_n0)
  have h2 := f26.at h2 (mm_nc (Ne.symm n_mc_st) mm_n0)
  have h3 := f26.at h3 (mm_nc (Ne.symm n_mc_w) mm_n0)
  have hm : M25 mc = some (ob 3 [.ref h, .null]) := g27
  have hF := hF.tr f26 (mm_ic 0 rfl mm_i0)
  refine lv_aload_n hx hb dX2_init_15 rfl (lv_at hl 0 rfl) ?_
  refine lv_bipush (v := nI 32) hx hb dX2_init_16 (by decide) ?_
  refine mm_newi S hC hA hR (by decide +kernel) (n := 32) (by omega) (Nat.le_of_ble_eq_true rfl) (Nat.le_of_ble_eq_true rfl) dX2_init_18 (fun ins H M28 z30 h4 f29 hR => ?_)
  have n_mc_ins : mc ≠ ins := mm_nenew hm z30
  have n_h_ins : h ≠ ins := mm_nenew h1 z30
  have n_st_ins : st ≠ ins := mm_nenew h2 z30
  have n_w_ins : w ≠ ins := mm_nenew h3 z30
  have nn_ins : M ins = none := hF.none z30 (mm_oc hm mm_o0)
  have hm := f29.at hm mm_n0
  have h1 := f29.at h1 mm_n0
  have h2 := f29.at h2 mm_n0
  have h3 := f29.at h3 mm_n0
  have h4 : M28 ins = some (ia G 32 (fun _ => 0)) := h4
  have hF := hF.tr f29 mm_i0
  refine mm_putF S hC hR (C := RX2) (T := TX2) (N := 2) (ref := "ForkWatch$Mac") 1 hm inRX2 rfl tyX2_ok nmX2 (by decide) (by decide +kernel) (fun _ h9 => h9) rfl hin rfl rfl rfl (Nat.le_of_ble_eq_true rfl) dX2_init_20 (fun H locs M31 g33 f32 hR => ?_)
  have h1 := f32.at h1 (mm_nc (Ne.symm n_mc_h) mm_n0)
  have h2 := f32.at h2 (mm_nc (Ne.symm n_mc_st) mm_n0)
  have h3 := f32.at h3 (mm_nc (Ne.symm n_mc_w) mm_n0)
  have h4 := f32.at h4 (mm_nc (Ne.symm n_mc_ins) mm_n0)
  have hm : M31 mc = some (ob 3 [.ref h, .ref ins]) := g33
  have hF := hF.tr f32 (mm_ic 0 rfl mm_i0)
  exact mm_vret S hr hlocks hR ⟨h, st, w, ins, nn_h, nn_st, nn_w, nn_ins, mm_nelen h2 h3 (by decide), mm_nelen h2 h4 (by decide), mm_nelen h3 h4 (by decide), ⟨hm, ⟨_, _, _, _, h1, h2, h3⟩, _, h4⟩, hF⟩ dX2_init_23
