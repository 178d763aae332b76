set_option maxHeartbeats 4000000 in
set_option maxRecDepth 100000 in
/-- History() -/
theorem c_X1_init (l : Launch) (G : mm_G) (M : mm_M) (sz : Nat) (Hi : Nat) (h0 : M Hi = some (ob 2 [.null, .null, .null]))  : mm_v l yX1_init wsX1_init ({ frames := 4, cells := 5, slots := 217, locals := 100 } : Room) G ([.ref Hi] : List Value) M sz (fun M' => ∃ Ls dn F ca la, M Ls = none ∧ M dn = none ∧ M F = none ∧ M ca = none ∧ M la = none ∧ M' Hi = some (ob 2 [.ref Ls, .ref dn, .ref F]) ∧ M' Ls = some (ob 0 [.int (nI 0), .ref G.2.2.2.2.1, .int (nI 0)]) ∧ M' dn = some (ia G 4 (fun _ => 0)) ∧ fiA G M' F ca la (fun _ => 0) (fun _ => 0) ∧ mm_fr [Hi] M M') := by
  refine mm_enter (cc := cX1_init) (maxL := 1) (ret := none) _ (by decide) rfl (Nat.le_of_ble_eq_true rfl) ?_
  intro p0 e0 s m0 be0 me0 c0 ls S hr hlocks hname hA hC hR hl
  have hx := S.1
  have hb := S.2.1
  have hl : lv_has ls 1 [(0, .ref Hi)] := hl
  have hin : me0.name = "<init>" := hname
  have inRJx4a65c : ∀ w ∈ wsJx4a65c0, w ∈ wsX1_init := by decide +kernel
  have inRX0 : ∀ w ∈ wsX00, w ∈ wsX1_init := by decide +kernel
  have inRX1 : ∀ w ∈ wsX10, w ∈ wsX1_init := by decide +kernel
  have hF : mm_fr [Hi] M M := mm_fr.rf
  refine lv_aload_n hx hb dX1_init_0 rfl (lv_at hl 0 rfl) ?_
  refine W.objInit hx hb S.2.2.2.1 (S.2.2.2.2 (.methodLink RX1 3 objectInit) (by decide +kernel)) (S.2.2.2.2 (.instanceMethod objectInit) (by decide +kernel)) (S.2.2.2.2 (.code objectInit ⟨#[0xb1]⟩ 1 none) (by decide +kernel)) rfl (by rw [S.2.2.1]; exact hl.1) rfl dX1_init_1 (Nat.le_of_ble_eq_true rfl) (Nat.le_of_ble_eq_true rfl) ?_
  refine W.eq (g2 := F0 m0 4 ls []) rfl ?_
  refine lv_aload_n hx hb dX1_init_4 rfl (lv_at hl 0 rfl) ?_
  refine mm_new (fs := [.int (nI 0), .null, .int (nI 0)]) S hC hA hR (C := RJx4a65c) (T := TJx4a65c) (N := 3) (ci := 0) inRJx4a65c rfl tyJx4a65c_ok (by decide +kernel) (by decide +kernel) (by decide +kernel) (fun j hj => by rcases (show j = 0 ∨ j = 1 ∨ j = 2 by omega) with rfl | rfl | rfl <;> rfl) (Nat.le_of_ble_eq_true rfl) (Nat.le_of_ble_eq_true rfl) dX1_init_5 (fun Ls H M7 z9 h1 f8 hR => ?_)
  have n_Hi_Ls : Hi ≠ Ls := mm_nenew h0 z9
  have nn_Ls : M Ls = none := hF.none z9 (mm_oc h0 mm_o0)
  have h0 := f8.at h0 mm_n0
  have h1 : M7 Ls = some (ob 0 [.int (nI 0), .null, .int (nI 0)]) := h1
  have hF := hF.tr f8 mm_i0
  refine lv_dup hx hb dX1_init_8 rfl ?_
  refine mm_callv hA hR (va_runI (As := []) (rest := [.ref Ls, .ref Hi]) S (c_Jx4a65c_init_da8c8 l G M7 _ Ls h1) (cwI 0 S.2.2.2.2 gX1_init_Jx4a65c_init_da8c8 rfl rfl rfl (S.2.2.2.2 (.initialized RJx4a65c) (by decide +kernel)) (S.2.2.2.2 (.methodLink RX1 11 yJx4a65c_init_da8c8) (by decide +kernel)) (S.2.2.2.2 (.instanceMethod yJx4a65c_init_da8c8) (by decide +kernel)) rfl (by decide +kernel) ⟨Nat.le_of_ble_eq_true rfl, Nat.le_of_ble_eq_true rfl⟩) (mm_preS hC hA hR _) rfl rfl hl.1 rfl (lv_room (Nat.le_of_ble_eq_true rfl)) dX1_init_9 ⟨Nat.le_of_ble_eq_true rfl, Nat.le_of_ble_eq_true rfl⟩) (fun M11 H locs hp hR => ?_)
  obtain ⟨e1, ff⟩ := hp
  have h0 := ff.at h0 (mm_nc n_Hi_Ls mm_n0)
  have h1 : M11 Ls = some (ob 0 [.int (nI 0), .ref G.2.2.2.2.1, .int (nI 0)]) := e1
  have hF := hF.tr ff (mm_in nn_Ls mm_i0)
  refine mm_putF S hC hR (C := RX1) (T := TX1) (N := 3) (ref := "ForkWatch$History") 0 h0 inRX1 rfl tyX1_ok nmX1 (by decide) (by decide +kernel) (fun _ h9 => h9) rfl hin rfl rfl rfl (Nat.le_of_ble_eq_true rfl) dX1_init_12 (fun H locs M12 g14 f13 hR => ?_)
  have h1 := f13.at h1 (mm_nc (Ne.symm n_Hi_Ls) mm_n0)
  have h0 : M12 Hi = some (ob 2 [.ref Ls, .null, .null]) := g14
  have hF := hF.tr f13 (mm_ic 0 rfl mm_i0)
  refine lv_aload_n hx hb dX1_init_15 rfl (lv_at hl 0 rfl) ?_
  refine lv_iconst (v := nI 4) hx hb dX1_init_16 (by decide) ?_
  refine mm_newi S hC hA hR (by decide +kernel) (n := 4) (by omega) (Nat.le_of_ble_eq_true rfl) (Nat.le_of_ble_eq_true rfl) dX1_init_17 (fun dn H M15 z17 h2 f16 hR => ?_)
  have n_Hi_dn : Hi ≠ dn := mm_nenew h0 z17
  have n_Ls_dn : Ls ≠ dn := mm_nenew h1 z17
  have nn_dn : M dn = none := hF.none z17 (mm_oc h0 mm_o0)
  have h0 := f16.at h0 mm_n0
  have h1 := f16.at h1 mm_n0
  have h2 : M15 dn = some (ia G 4 (fun _ => 0)) := h2
  have hF := hF.tr f16 mm_i0
  refine mm_putF S hC hR (C := RX1) (T := TX1) (N := 3) (ref := "ForkWatch$History") 1 h0 inRX1 rfl tyX1_ok nmX1 (by decide) (by decide +kernel) (fun _ h9 => h9) rfl hin rfl rfl rfl (Nat.le_of_ble_eq_true rfl) dX1_init_19 (fun H locs M18 g20 f19 hR => ?_)
  have h1 := f19.at h1 (mm_nc (Ne.symm n_Hi_Ls) mm_n0)
  have h2 := f19.at h2 (mm_nc (Ne.symm n_Hi_dn) mm_n0)
  have h0 : M18 Hi = some (ob 2 [.ref Ls, .ref dn, .null]) := g20
  have hF := hF.tr f19 (mm_ic 0 rfl mm_i0)
  refine lv_aload_n hx hb dX1_init_22 rfl (lv_at hl 0 rfl) ?_
  refine mm_new (fs := [.null, .null]) S hC hA hR (C := RX0) (T := TX0) (N := 2) (ci := 1) inRX0 rfl tyX0_ok (by decide +kernel) (by decide +kernel) (by decide +kernel) (fun j hj => by rcases (show j = 0 ∨ j = 1 by omega) with rfl | rfl <;> rfl) (Nat.le_of_ble_eq_true rfl) (Nat.le_of_ble_eq_true rfl) dX1_init_23 (fun F H M21 z23 h3 f22 hR => ?_)
  have n_Hi_F : Hi ≠ F := mm_nenew h0 z23
  have n_Ls_F : Ls ≠ F := mm_nenew h1 z23
  have n_dn_F : dn ≠ F := mm_nenew h2 z23
  have nn_F : M F = none := hF.none z23 (mm_oc h0 mm_o0)
  have h0 := f22.at h0 mm_n0
  have h1 := f22.at h1 mm_n0
  have h2 := f22.at h2 mm_n0
  have h3 : M21 F = some (ob 1 [.null, .null]) := h3
  have hF := hF.tr f22 mm_i0
  refine lv_dup hx hb dX1_init_26 rfl ?_
  refine mm_callv hA hR (va_runIN (As := []) (rest := [.ref F, .ref Hi]) S (c_X0_init l G M21 _ F h3) ⟨va_cnB 0 S.2.2.2.2 gX1_init_X0_init_n24 rfl rfl rfl (hC.2.2.2.2.2 (.methodLinkNest RX1 24 yX0_init "ForkWatch") (by decide +kernel)) (S.2.2.2.2 (.initialized RX0) (by decide +kernel)) (by decide +kernel) ⟨Nat.le_of_ble_eq_true rfl, Nat.le_of_ble_eq_true rfl⟩, rfl, S.2.2.2.2 (.instanceMethod yX0_init) (by decide +kernel)⟩ (mm_preS hC hA hR _) rfl rfl hl.1 rfl (lv_room (Nat.le_of_ble_eq_true rfl)) dX1_init_27 ⟨Nat.le_of_ble_eq_true rfl, Nat.le_of_ble_eq_true rfl⟩) (fun M25 H locs hp hR => ?_)
  obtain ⟨ca, la, y1, y2, ⟨e1, e2, e3⟩, ff⟩ := hp
  have n_Hi_ca : Hi ≠ ca := mm_nenew h0 y1
  have n_Ls_ca : Ls ≠ ca := mm_nenew h1 y1
  have n_dn_ca : dn ≠ ca := mm_nenew h2 y1
  have n_F_ca : F ≠ ca := mm_nenew h3 y1
  have nn_ca : M ca = none := hF.none y1 (mm_oc h0 mm_o0)
  have n_Hi_la : Hi ≠ la := mm_nenew h0 y2
  have n_Ls_la : Ls ≠ la := mm_nenew h1 y2
  have n_dn_la : dn ≠ la := mm_nenew h2 y2
  have n_F_la : F ≠ la := mm_nenew h3 y2
  have nn_la : M la = none := hF.none y2 (mm_oc h0 mm_o0)
  have h0 := ff.at h0 (mm_nc n_Hi_F mm_n0)
  have h1 := ff.at h1 (mm_nc n_Ls_F mm_n0)
  have h2 := ff.at h2 (mm_nc n_dn_F mm_n0)
  have h3 : M25 F = some (ob 1 [.ref ca, .ref la]) := e1
  have h4 : M25 ca = some (ia G 192 (fun _ => 0)) := e2
  have h5 : M25 la = some (ia G 16 (fun _ => 0)) := e3
  have hF := hF.tr ff (mm_in nn_F mm_i0)
  refine mm_putF S hC hR (C := RX1) (T := TX1) (N := 3) (ref := "ForkWatch$History") 2 h0 inRX1 rfl tyX1_ok nmX1 (by decide) (by decide +kernel) (fun _ h9 => h9) rfl hin rfl rfl rfl (Nat.le_of_ble_eq_true rfl) dX1_init_30 (fun H locs M26 g28 f27 hR => ?_)
  have h1 := f27.at h1 (mm_nc (Ne.symm n_Hi_Ls) mm_n0)
  have h2 := f27.at h2 (mm_nc (Ne.symm n_Hi_dn) mm_n0)
  have h3 := f27.at h3 (mm_nc (Ne.symm n_Hi_F) mm_n0)
  have h4 := f27.at h4 (mm_nc (Ne.symm n_Hi_ca) mm_n0)
  have h5 := f27.at h5 (mm_nc (Ne.symm n_Hi_la) mm_n0)
  have h0 : M26 Hi = some (ob 2 [.ref Ls, .ref dn, .ref F]) := g28
  have hF := hF.tr f27 (mm_ic 0 rfl mm_i0)
  exact mm_vret S hr hlocks hR ⟨Ls, dn, F, ca, la, nn_Ls, nn_dn, nn_F, nn_ca, nn_la, h0, h1, h2, ⟨h3, h4, h5⟩, hF⟩ dX1_init_33

set_option maxHeartbeats 4000000 in
set_option maxRecDepth 100000 in
/-- oneBeginsTheOther(a, b) -/
theorem c_X1_oneBeginsTheOther (l : Launch) (G : mm_G) (M : mm_M) (sz : Nat) (Hi Ls dn F E no h b h' b' : Nat) (O Y : Nat → Nat) (op : Nat → OpT) (f g : Nat → Int32) (h0 : M Hi = some (ob 2 [.ref Ls, .ref dn, .ref F])) (h1 : M h = some (ob 6 [.ref b])) (h2 : M b = some (ia G 84 f)) (h3 : M h' = some (ob 6 [.ref b'])) (h4 : M b' = some (ia G 84 g)) (hop : opsA G M Ls E no O Y op) (hno : no < 1000) : mm_i l yX1_oneBeginsTheOther wsX1_oneBeginsTheOther ({ frames := 3, cells := 0, slots := 0, locals := 100 } : Room) G ([.ref Hi, .ref h, .ref h'] : List Value) M sz (fun r M' => bq r (begP f g op no) ∧ mm_fr [] M M') := by
  refine mm_enter (cc := cX1_oneBeginsTheOther) (maxL := 8) (ret := (some .boolean)) _ (by decide) rfl (Nat.le_of_ble_eq_true rfl) ?_
  intro p0 e0 s m0 be0 me0 c0 ls S hr hlocks hname hA hC hR hl
  have hx := S.1
  have hb := S.2.1
  have hl : lv_has ls 8 [(0, .ref Hi), (1, .ref h), (2, .ref h')] := hl
  have inRJx4a65c : ∀ w ∈ wsJx4a65c0, w ∈ wsX1_oneBeginsTheOther := by decide +kernel
  have inRX1 : ∀ w ∈ wsX10, w ∈ wsX1_oneBeginsTheOther := by decide +kernel
  have inRX3 : ∀ w ∈ wsX30, w ∈ wsX1_oneBeginsTheOther := by decide +kernel
  have inRX5 : ∀ w ∈ wsX50, w ∈ wsX1_oneBeginsTheOther := by decide +kernel
  have hF : mm_fr [] M M := mm_fr.rf
  refine lv_iconst (v := nI 0) hx hb dX1_oneBeginsTheOther_0 (by decide) ?_
  refine lv_istore_n (lv' := [(3, .int (nI 0)), (0, .ref Hi), (1, .ref h), (2, .ref h')]) hx hb dX1_oneBeginsTheOther_1 rfl hl (by decide) rfl (fun ls hl => ?_)
  refine lv_iconst (v := nI 0) hx hb dX1_oneBeginsTheOther_2 (by decide) ?_
  refine lv_istore (lv' := [(4, .int (nI 0)), (3, .int (nI 0)), (0, .ref Hi), (1, .ref h), (2, .ref h')]) hx hb dX1_oneBeginsTheOther_3 hl (by decide) rfl (fun ls hl => ?_)
  refine lv_iconst (v := nI 0) hx hb dX1_oneBeginsTheOther_5 (by decide) ?_
  refine lv_istore (lv' := [(5, .int (nI 0)), (4, .int (nI 0)), (3, .int (nI 0)), (0, .ref Hi), (1, .ref h), (2, .ref h')]) hx hb dX1_oneBeginsTheOther_6 hl (by decide) rfl (fun ls hl => ?_)
  have loop : ∀ (n x : Nat) (ea eb : Int32) (M1 : mm_M) (H : Heap) (locs : List Loc) (ls : Array Slot), no < x + n → x ≤ no → bq ea (endP f g op x) → bq eb (endP g f op x) → (∀ i, i < x → ¬ ((cnt f (op i) ∧ endP f g op i) ∨ (cnt g (op i) ∧ endP g f op i))) → opsA G M1 Ls E no O Y op → mm_fr [] M M1 → mm_R G s (mm_A M sz) M1 H locs → lv_has ls 8 [(0, .ref Hi), (1, .ref h), (2, .ref h'), (3, .int ea), (4, .int eb), (5, .int (nI x))] → W p0 l e0 ({ frames := 3, cells := 0, slots := 0, locals := 100 } : Room) s m0 ([.ref Hi, .ref h, .ref h'] : List Value).toArray be0 me0 c0 H locs 0 0 (MQ be0 (va_Qi (fun r M' => bq r (begP f g op no) ∧ mm_fr [] M M') (fun M' t => mm_H G (mm_A M sz) M' t.heap) (mm_A M sz)) ([.ref Hi, .ref h, .ref h'] : List Value).toArray s 0 0 (mm_A M sz)) (F0 m0 8 ls []) := by
    intro n
    induction n with
    | zero =>
      intro x ea eb M1 H locs ls hn hx4 hea heb hall hop hF hR hl
      omega
    | succ n ih =>
      intro x ea eb M1 H locs ls hn hx4 hea heb hall hop hF hR hl
      have h0 := hF.at h0 mm_n0
      have h1 := hF.at h1 mm_n0
      have h2 := hF.at h2 mm_n0
      have h3 := hF.at h3 mm_n0
      have h4 := hF.at h4 mm_n0
      obtain ⟨mc, hls⟩ := hop.1
      refine lv_iload hx hb dX1_oneBeginsTheOther_8 (lv_at hl 5 rfl) ?_
      refine lv_aload_n hx hb dX1_oneBeginsTheOther_10 rfl (lv_at hl 0 rfl) ?_
      refine mm_get S hC hR (C := RX1) (T := TX1) (N := 3) (ref := "ForkWatch$History") (v := .ref Ls) 0 h0 inRX1 rfl (by decide) (by decide +kernel) (fun _ h9 => h9) rfl dX1_oneBeginsTheOther_11 ?_
      refine mm_calli hA hR (va_runV (As := []) (rest := [.int (nI x)]) S (c_Jx4a65c_size_8abf5 l G M1 _ Ls E no mc hls) (cwV 0 S.2.2.2.2 gX1_oneBeginsTheOther_Jx4a65c_size_8abf5 rfl rfl rfl (by decide +kernel) ⟨Nat.le_of_ble_eq_true rfl, Nat.le_of_ble_eq_true rfl⟩) (mm_preV hC hA hR _ hls rfl) rfl rfl hl.1 rfl (lv_room (Nat.le_of_ble_eq_true rfl)) dX1_oneBeginsTheOther_14 ⟨Nat.le_of_ble_eq_true rfl, Nat.le_of_ble_eq_true rfl⟩) (fun r29 M30 H locs hp hR => ?_)
      obtain ⟨e1, ff⟩ := hp
      subst e1
      have hop := hop.fr0 ff
      have h0 := ff.at h0 mm_n0
      have h1 := ff.at h1 mm_n0
      have h2 := ff.at h2 mm_n0
      have h3 := ff.at h3 mm_n0
      have h4 := ff.at h4 mm_n0
      have hls := ff.at hls mm_n0
      have hF := hF.tr ff mm_i0
      refine lv_icmp_ge (tgt := 125) hx hb dX1_oneBeginsTheOther_17 (by decide) (fun c31 => ?_) (fun c31 => ?_)
      · have c31 : no ≤ x := (nI_leI (a := no) (b := x) (by omega) (by omega)).mp c31
        have e4 : x = no := by omega
        subst e4
        refine lv_iconst (v := nI 1) hx hb dX1_oneBeginsTheOther_125 (by decide) ?_
        exact mm_zret S hr hlocks (by decide) hR ⟨Or.inl ⟨rfl, hall⟩, hF⟩ dX1_oneBeginsTheOther_126
      · have c31 : ¬ (no ≤ x) := fun z => c31 ((nI_leI (a := no) (b := x) (by omega) (by omega)).mpr z)
        obtain ⟨hoO, ⟨gx, hoY, hoG⟩, hok⟩ := hop.2.2 x (by omega)
        obtain ⟨cap, fe, hE, hc1, hc2, hc3, hfe⟩ := hop.2.1.resolve_left (fun z => by omega)
        refine lv_aload_n hx hb dX1_oneBeginsTheOther_20 rfl (lv_at hl 0 rfl) ?_
        refine mm_get S hC hR (C := RX1) (T := TX1) (N := 3) (ref := "ForkWatch$History") (v := .ref Ls) 0 h0 inRX1 rfl (by decide) (by decide +kernel) (fun _ h9 => h9) rfl dX1_oneBeginsTheOther_21 ?_
        refine lv_iload hx hb dX1_oneBeginsTheOther_24 (lv_at hl 5 rfl) ?_
        refine mm_callq hA hR (va_runV (As := [.int (nI x)]) (rest := []) S (c_Jx4a65c_get_915e3 l G M30 _ Ls E no cap x mc fe hls hE (by omega) hc1 (by omega)) (cwV 1 S.2.2.2.2 gX1_oneBeginsTheOther_Jx4a65c_get_915e3 rfl rfl rfl (by decide +kernel) ⟨Nat.le_of_ble_eq_true rfl, Nat.le_of_ble_eq_true rfl⟩) (mm_preV hC hA hR _ hls rfl) rfl rfl hl.1 rfl (lv_room (Nat.le_of_ble_eq_true rfl)) dX1_oneBeginsTheOther_26 ⟨Nat.le_of_ble_eq_true rfl, Nat.le_of_ble_eq_true rfl⟩) (fun r32 M33 H locs hp hR => ?_)
        obtain ⟨e1, ff⟩ := hp
        rw [hfe x (by omega)] at e1
        subst e1
        have hop := hop.fr0 ff
        have h0 := ff.at h0 mm_n0
        have h1 := ff.at h1 mm_n0
        have h2 := ff.at h2 mm_n0
        have h3 := ff.at h3 mm_n0
        have h4 := ff.at h4 mm_n0
        have hls := ff.at hls mm_n0
        have hoO := ff.at hoO mm_n0
        have hE := ff.at hE mm_n0
        have hF := hF.tr ff mm_i0
        refine mm_cast (r := (RX3, TX3, 5)) S hC hR hoO rfl (by decide +kernel) dX1_oneBeginsTheOther_29 ?_
        refine lv_aload_n hx hb dX1_oneBeginsTheOther_32 rfl (lv_at hl 1 rfl) ?_
        refine mm_calli hA hR (va_runV (As := [.ref h]) (rest := []) S (c_X3_isCountedBy l G M33 _ (O x) h b (op x).2.1 (op x).2.2.1 (op x).2.2.2.1 (Y x) (op x).1 f hoO h1 h2 hok.2.1) (cwV 1 S.2.2.2.2 gX1_oneBeginsTheOther_X3_isCountedBy rfl rfl rfl (by decide +kernel) ⟨Nat.le_of_ble_eq_true rfl, Nat.le_of_ble_eq_true rfl⟩) (mm_preV hC hA hR _ hoO rfl) rfl rfl hl.1 rfl (lv_room (Nat.le_of_ble_eq_true rfl)) dX1_oneBeginsTheOther_33 ⟨Nat.le_of_ble_eq_true rfl, Nat.le_of_ble_eq_true rfl⟩) (fun r34 M35 H locs hp hR => ?_)
        obtain ⟨qA, ff⟩ := hp
        have hop := hop.fr0 ff
        have h0 := ff.at h0 mm_n0
        have h1 := ff.at h1 mm_n0
        have h2 := ff.at h2 mm_n0
        have h3 := ff.at h3 mm_n0
        have h4 := ff.at h4 mm_n0
        have hls := ff.at hls mm_n0
        have hoO := ff.at hoO mm_n0
        have hE := ff.at hE mm_n0
        have hF := hF.tr ff mm_i0
        refine lv_istore (lv' := [(6, .int r34), (0, .ref Hi), (1, .ref h), (2, .ref h'), (3, .int ea), (4, .int eb), (5, .int (nI x))]) hx hb dX1_oneBeginsTheOther_36 hl (by decide) rfl (fun ls hl => ?_)
        refine lv_aload_n hx hb dX1_oneBeginsTheOther_38 rfl (lv_at hl 1 rfl) ?_
        refine mm_get S hC hR (C := RX1) (T := TX1) (N := 3) (ref := "ForkWatch$History") (v := .ref Ls) 0 h0 inRX1 rfl (by decide) (by decide +kernel) (fun _ h9 => h9) rfl dX1_oneBeginsTheOther_39 ?_
        refine lv_iload hx hb dX1_oneBeginsTheOther_42 (lv_at hl 6 rfl) ?_
        refine mm_callq hA hR (va_runV (As := [.int (nI x)]) (rest := []) S (c_Jx4a65c_get_915e3 l G M35 _ Ls E no cap x mc fe hls hE (by omega) hc1 (by omega)) (cwV 1 S.2.2.2.2 gX1_oneBeginsTheOther_Jx4a65c_get_915e3 rfl rfl rfl (by decide +kernel) ⟨Nat.le_of_ble_eq_true rfl, Nat.le_of_ble_eq_true rfl⟩) (mm_preV hC hA hR _ hls rfl) rfl rfl hl.1 rfl (lv_room (Nat.le_of_ble_eq_true rfl)) dX1_oneBeginsTheOther_44 ⟨Nat.le_of_ble_eq_true rfl, Nat.le_of_ble_eq_true rfl⟩) (fun r36 M37 H locs hp hR => ?_)
        obtain ⟨e1, ff⟩ := hp
        rw [hfe x (by omega)] at e1
        subst e1
        have hop := hop.fr0 ff
        have h0 := ff.at h0 mm_n0
        have h1 := ff.at h1 mm_n0
        have h2 := ff.at h2 mm_n0
        have h3 := ff.at h3 mm_n0
        have h4 := ff.at h4 mm_n0
        have hls := ff.at hls mm_n0
        have hoO := ff.at hoO mm_n0
        have hE := ff.at hE mm_n0
        have hF := hF.tr ff mm_i0
        refine mm_cast (r := (RX3, TX3, 5)) S hC hR hoO rfl (by decide +kernel) dX1_oneBeginsTheOther_47 ?_
        refine lv_aload_n hx hb dX1_oneBeginsTheOther_50 rfl (lv_at hl 3 rfl) ?_
        refine mm_calli hA hR (va_runV (As := [.ref h']) (rest := []) S (c_X3_isCountedBy l G M37 _ (O x) h' b' (op x).2.1 (op x).2.2.1 (op x).2.2.2.1 (Y x) (op x).1 g hoO h3 h4 hok.2.1) (cwV 1 S.2.2.2.2 gX1_oneBeginsTheOther_X3_isCountedBy rfl rfl rfl (by decide +kernel) ⟨Nat.le_of_ble_eq_true rfl, Nat.le_of_ble_eq_true rfl⟩) (mm_preV hC hA hR _ hoO rfl) rfl rfl hl.1 rfl (lv_room (Nat.le_of_ble_eq_true rfl)) dX1_oneBeginsTheOther_51 ⟨Nat.le_of_ble_eq_true rfl, Nat.le_of_ble_eq_true rfl⟩) (fun r38 M39 H locs hp hR => ?_)
        obtain ⟨qB, ff⟩ := hp
        have hop := hop.fr0 ff
        have h0 := ff.at h0 mm_n0
        have h1 := ff.at h1 mm_n0
        have h2 := ff.at h2 mm_n0
        have h3 := ff.at h3 mm_n0
        have h4 := ff.at h4 mm_n0
        have hls := ff.at hls mm_n0
        have hoO := ff.at hoO mm_n0
        have hE := ff.at hE mm_n0
        have hF := hF.tr ff mm_i0
        refine lv_istore (lv' := [(7, .int r38), (6, .int r34), (0, .ref Hi), (1, .ref h), (2, .ref h'), (3, .int ea), (4, .int eb), (5, .int (nI x))]) hx hb dX1_oneBeginsTheOther_54 hl (by decide) rfl (fun ls hl => ?_)
        rcases qA with ⟨eA, qA⟩ | ⟨eA, qA⟩ <;> rcases qB with ⟨eB, qB⟩ | ⟨eB, qB⟩ <;> rcases hea with ⟨eX, hea⟩ | ⟨eX, hea⟩ <;> rcases heb with ⟨eY, heb⟩ | ⟨eY, heb⟩ <;> subst eA <;> subst eB <;> subst eX <;> subst eY
        · skip
          refine lv_iload hx hb dX1_oneBeginsTheOther_56 (lv_at hl 1 rfl) ?_
          refine lv_if_eq (tgt := 65) hx hb dX1_oneBeginsTheOther_58 (by decide) (fun z => by first | exact absurd z (by decide) | exact absurd (by decide) z) (fun _ => ?_)
          refine lv_iload_n hx hb dX1_oneBeginsTheOther_61 rfl (lv_at hl 5 rfl) ?_
          refine lv_if_ne (tgt := 75) hx hb dX1_oneBeginsTheOther_62 (by decide) (fun _ => ?_) (fun z => by first | exact absurd z (by decide) | exact absurd (by decide) z)
          refine lv_iconst (v := nI 0) hx hb dX1_oneBeginsTheOther_75 (by decide) ?_
          exact mm_zret S hr hlocks (by decide) hR ⟨Or.inr ⟨rfl, fun z => z x (by omega) (Or.inl ⟨qA, hea⟩)⟩, hF⟩ dX1_oneBeginsTheOther_76
        · skip
          refine lv_iload hx hb dX1_oneBeginsTheOther_56 (lv_at hl 1 rfl) ?_
          refine lv_if_eq (tgt := 65) hx hb dX1_oneBeginsTheOther_58 (by decide) (fun z => by first | exact absurd z (by decide) | exact absurd (by decide) z) (fun _ => ?_)
          refine lv_iload_n hx hb dX1_oneBeginsTheOther_61 rfl (lv_at hl 5 rfl) ?_
          refine lv_if_ne (tgt := 75) hx hb dX1_oneBeginsTheOther_62 (by decide) (fun _ => ?_) (fun z => by first | exact absurd z (by decide) | exact absurd (by decide) z)
          refine lv_iconst (v := nI 0) hx hb dX1_oneBeginsTheOther_75 (by decide) ?_
          exact mm_zret S hr hlocks (by decide) hR ⟨Or.inr ⟨rfl, fun z => z x (by omega) (Or.inl ⟨qA, hea⟩)⟩, hF⟩ dX1_oneBeginsTheOther_76
        · skip
          refine lv_iload hx hb dX1_oneBeginsTheOther_56 (lv_at hl 1 rfl) ?_
          refine lv_if_eq (tgt := 65) hx hb dX1_oneBeginsTheOther_58 (by decide) (fun z => by first | exact absurd z (by decide) | exact absurd (by decide) z) (fun _ => ?_)
          refine lv_iload_n hx hb dX1_oneBeginsTheOther_61 rfl (lv_at hl 5 rfl) ?_
          refine lv_if_ne (tgt := 75) hx hb dX1_oneBeginsTheOther_62 (by decide) (fun z => by first | exact absurd z (by decide) | exact absurd (by decide) z) (fun _ => ?_)
          refine lv_iload hx hb dX1_oneBeginsTheOther_65 (lv_at hl 0 rfl) ?_
          refine lv_if_eq (tgt := 77) hx hb dX1_oneBeginsTheOther_67 (by decide) (fun z => by first | exact absurd z (by decide) | exact absurd (by decide) z) (fun _ => ?_)
          refine lv_iload hx hb dX1_oneBeginsTheOther_70 (lv_at hl 6 rfl) ?_
          refine lv_if_eq (tgt := 77) hx hb dX1_oneBeginsTheOther_72 (by decide) (fun z => by first | exact absurd z (by decide) | exact absurd (by decide) z) (fun _ => ?_)
          refine lv_iconst (v := nI 0) hx hb dX1_oneBeginsTheOther_75 (by decide) ?_
          exact mm_zret S hr hlocks (by decide) hR ⟨Or.inr ⟨rfl, fun z => z x (by omega) (Or.inr ⟨qB, heb⟩)⟩, hF⟩ dX1_oneBeginsTheOther_76
        · skip
          refine lv_iload hx hb dX1_oneBeginsTheOther_56 (lv_at hl 1 rfl) ?_
          refine lv_if_eq (tgt := 65) hx hb dX1_oneBeginsTheOther_58 (by decide) (fun z => by first | exact absurd z (by decide) | exact absurd (by decide) z) (fun _ => ?_)
          refine lv_iload_n hx hb dX1_oneBeginsTheOther_61 rfl (lv_at hl 5 rfl) ?_
          refine lv_if_ne (tgt := 75) hx hb dX1_oneBeginsTheOther_62 (by decide) (fun z => by first | exact absurd z (by decide) | exact absurd (by decide) z) (fun _ => ?_)
          refine lv_iload hx hb dX1_oneBeginsTheOther_65 (lv_at hl 0 rfl) ?_
          refine lv_if_eq (tgt := 77) hx hb dX1_oneBeginsTheOther_67 (by decide) (fun z => by first | exact absurd z (by decide) | exact absurd (by decide) z) (fun _ => ?_)
          refine lv_iload hx hb dX1_oneBeginsTheOther_70 (lv_at hl 6 rfl) ?_
          refine lv_if_eq (tgt := 77) hx hb dX1_oneBeginsTheOther_72 (by decide) (fun _ => ?_) (fun z => by first | exact absurd z (by decide) | exact absurd (by decide) z)
          refine lv_iload_n hx hb dX1_oneBeginsTheOther_77 rfl (lv_at hl 5 rfl) ?_
          refine lv_if_ne (tgt := 91) hx hb dX1_oneBeginsTheOther_78 (by decide) (fun z => by first | exact absurd z (by decide) | exact absurd (by decide) z) (fun _ => ?_)
          refine lv_iload hx hb dX1_oneBeginsTheOther_81 (lv_at hl 0 rfl) ?_
          refine lv_if_eq (tgt := 95) hx hb dX1_oneBeginsTheOther_83 (by decide) (fun z => by first | exact absurd z (by decide) | exact absurd (by decide) z) (fun _ => ?_)
          refine lv_iload hx hb dX1_oneBeginsTheOther_86 (lv_at hl 1 rfl) ?_
          refine lv_if_ne (tgt := 95) hx hb dX1_oneBeginsTheOther_88 (by decide) (fun _ => ?_) (fun z => by first | exact absurd z (by decide) | exact absurd (by decide) z)
          refine lv_iconst (v := nI 0) hx hb dX1_oneBeginsTheOther_95 (by decide) ?_
          refine lv_istore_n (lv' := [(3, .int (nI 0)), (7, .int 1), (6, .int 1), (0, .ref Hi), (1, .ref h), (2, .ref h'), (4, .int 0), (5, .int (nI x))]) hx hb dX1_oneBeginsTheOther_96 rfl hl (by decide) rfl (fun ls hl => ?_)
          refine lv_iload hx hb dX1_oneBeginsTheOther_97 (lv_at hl 6 rfl) ?_
          refine lv_if_ne (tgt := 112) hx hb dX1_oneBeginsTheOther_99 (by decide) (fun z => by first | exact absurd z (by decide) | exact absurd (by decide) z) (fun _ => ?_)
          refine lv_iload hx hb dX1_oneBeginsTheOther_102 (lv_at hl 2 rfl) ?_
          refine lv_if_eq (tgt := 116) hx hb dX1_oneBeginsTheOther_104 (by decide) (fun z => by first | exact absurd z (by decide) | exact absurd (by decide) z) (fun _ => ?_)
          refine lv_iload hx hb dX1_oneBeginsTheOther_107 (lv_at hl 1 rfl) ?_
          refine lv_if_ne (tgt := 116) hx hb dX1_oneBeginsTheOther_109 (by decide) (fun _ => ?_) (fun z => by first | exact absurd z (by decide) | exact absurd (by decide) z)
          refine lv_iconst (v := nI 0) hx hb dX1_oneBeginsTheOther_116 (by decide) ?_
          refine lv_istore (lv' := [(4, .int (nI 0)), (3, .int (nI 0)), (7, .int 1), (6, .int 1), (0, .ref Hi), (1, .ref h), (2, .ref h'), (5, .int (nI x))]) hx hb dX1_oneBeginsTheOther_117 hl (by decide) rfl (fun ls hl => ?_)
          refine lv_iinc (v := (nI (x + 1))) (lv' := [(5, .int (nI (x + 1))), (4, .int (nI 0)), (3, .int (nI 0)), (7, .int 1), (6, .int 1), (0, .ref Hi), (1, .ref h), (2, .ref h')]) hx hb dX1_oneBeginsTheOther_119 hl (k := 7) rfl (by rw [show Int32.ofInt 1 = nI 1 from by decide]; exact nI_add _ _) (by decide) rfl (fun ls hl => ?_)
          refine lv_goto (tgt := 8) hx hb dX1_oneBeginsTheOther_122 (by decide) ?_
          exact ih (x + 1) (nI 0) (nI 0) _ H locs ls (by omega) (by omega) (Or.inr ⟨rfl, fun z => by obtain ⟨j, h1, h2, h3⟩ := z; by_cases e : j = x; (subst e; first | exact h3 qA | exact qB h2); exact hea ⟨j, by omega, h2, h3⟩⟩) (Or.inr ⟨rfl, fun z => by obtain ⟨j, h1, h2, h3⟩ := z; by_cases e : j = x; (subst e; first | exact h3 qB | exact qA h2); exact heb ⟨j, by omega, h2, h3⟩⟩) (fun i hi => by by_cases e : i = x; (subst e; intro z; rcases z with ⟨z1, z2⟩ | ⟨z1, z2⟩; (first | exact qA z1 | exact hea z2); (first | exact qB z1 | exact heb z2)); exact hall i (by omega)) hop hF hR (lv_sub hl [5, 6, 7, 2, 1, 0] rfl)
        · skip
          refine lv_iload hx hb dX1_oneBeginsTheOther_56 (lv_at hl 1 rfl) ?_
          refine lv_if_eq (tgt := 65) hx hb dX1_oneBeginsTheOther_58 (by decide) (fun z => by first | exact absurd z (by decide) | exact absurd (by decide) z) (fun _ => ?_)
          refine lv_iload_n hx hb dX1_oneBeginsTheOther_61 rfl (lv_at hl 5 rfl) ?_
          refine lv_if_ne (tgt := 75) hx hb dX1_oneBeginsTheOther_62 (by decide) (fun _ => ?_) (fun z => by first | exact absurd z (by decide) | exact absurd (by decide) z)
          refine lv_iconst (v := nI 0) hx hb dX1_oneBeginsTheOther_75 (by decide) ?_
          exact mm_zret S hr hlocks (by decide) hR ⟨Or.inr ⟨rfl, fun z => z x (by omega) (Or.inl ⟨qA, hea⟩)⟩, hF⟩ dX1_oneBeginsTheOther_76
        · skip
          refine lv_iload hx hb dX1_oneBeginsTheOther_56 (lv_at hl 1 rfl) ?_
          refine lv_if_eq (tgt := 65) hx hb dX1_oneBeginsTheOther_58 (by decide) (fun z => by first | exact absurd z (by decide) | exact absurd (by decide) z) (fun _ => ?_)
          refine lv_iload_n hx hb dX1_oneBeginsTheOther_61 rfl (lv_at hl 5 rfl) ?_
          refine lv_if_ne (tgt := 75) hx hb dX1_oneBeginsTheOther_62 (by decide) (fun _ => ?_) (fun z => by first | exact absurd z (by decide) | exact absurd (by decide) z)
          refine lv_iconst (v := nI 0) hx hb dX1_oneBeginsTheOther_75 (by decide) ?_
          exact mm_zret S hr hlocks (by decide) hR ⟨Or.inr ⟨rfl, fun z => z x (by omega) (Or.inl ⟨qA, hea⟩)⟩, hF⟩ dX1_oneBeginsTheOther_76
        · skip
          refine lv_iload hx hb dX1_oneBeginsTheOther_56 (lv_at hl 1 rfl) ?_
          refine lv_if_eq (tgt := 65) hx hb dX1_oneBeginsTheOther_58 (by decide) (fun z => by first | exact absurd z (by decide) | exact absurd (by decide) z) (fun _ => ?_)
          refine lv_iload_n hx hb dX1_oneBeginsTheOther_61 rfl (lv_at hl 5 rfl) ?_
          refine lv_if_ne (tgt := 75) hx hb dX1_oneBeginsTheOther_62 (by decide) (fun z => by first | exact absurd z (by decide) | exact absurd (by decide) z) (fun _ => ?_)
          refine lv_iload hx hb dX1_oneBeginsTheOther_65 (lv_at hl 0 rfl) ?_
          refine lv_if_eq (tgt := 77) hx hb dX1_oneBeginsTheOther_67 (by decide) (fun _ => ?_) (fun z => by first | exact absurd z (by decide) | exact absurd (by decide) z)
          refine lv_iload_n hx hb dX1_oneBeginsTheOther_77 rfl (lv_at hl 5 rfl) ?_
          refine lv_if_ne (tgt := 91) hx hb dX1_oneBeginsTheOther_78 (by decide) (fun z => by first | exact absurd z (by decide) | exact absurd (by decide) z) (fun _ => ?_)
          refine lv_iload hx hb dX1_oneBeginsTheOther_81 (lv_at hl 0 rfl) ?_
          refine lv_if_eq (tgt := 95) hx hb dX1_oneBeginsTheOther_83 (by decide) (fun _ => ?_) (fun z => by first | exact absurd z (by decide) | exact absurd (by decide) z)
          refine lv_iconst (v := nI 0) hx hb dX1_oneBeginsTheOther_95 (by decide) ?_
          refine lv_istore_n (lv' := [(3, .int (nI 0)), (7, .int 0), (6, .int 1), (0, .ref Hi), (1, .ref h), (2, .ref h'), (4, .int 1), (5, .int (nI x))]) hx hb dX1_oneBeginsTheOther_96 rfl hl (by decide) rfl (fun ls hl => ?_)
          refine lv_iload hx hb dX1_oneBeginsTheOther_97 (lv_at hl 6 rfl) ?_
          refine lv_if_ne (tgt := 112) hx hb dX1_oneBeginsTheOther_99 (by decide) (fun _ => ?_) (fun z => by first | exact absurd z (by decide) | exact absurd (by decide) z)
          refine lv_iconst (v := nI 1) hx hb dX1_oneBeginsTheOther_112 (by decide) ?_
          refine lv_goto (tgt := 117) hx hb dX1_oneBeginsTheOther_113 (by decide) ?_
          refine lv_istore (lv' := [(4, .int (nI 1)), (3, .int (nI 0)), (7, .int 0), (6, .int 1), (0, .ref Hi), (1, .ref h), (2, .ref h'), (5, .int (nI x))]) hx hb dX1_oneBeginsTheOther_117 hl (by decide) rfl (fun ls hl => ?_)
          refine lv_iinc (v := (nI (x + 1))) (lv' := [(5, .int (nI (x + 1))), (4, .int (nI 1)), (3, .int (nI 0)), (7, .int 0), (6, .int 1), (0, .ref Hi), (1, .ref h), (2, .ref h')]) hx hb dX1_oneBeginsTheOther_119 hl (k := 7) rfl (by rw [show Int32.ofInt 1 = nI 1 from by decide]; exact nI_add _ _) (by decide) rfl (fun ls hl => ?_)
          refine lv_goto (tgt := 8) hx hb dX1_oneBeginsTheOther_122 (by decide) ?_
          exact ih (x + 1) (nI 0) (nI 1) _ H locs ls (by omega) (by omega) (Or.inr ⟨rfl, fun z => by obtain ⟨j, h1, h2, h3⟩ := z; by_cases e : j = x; (subst e; first | exact h3 qA | exact qB h2); exact hea ⟨j, by omega, h2, h3⟩⟩) (Or.inl ⟨rfl, heb.imp (fun j hj => ⟨by omega, hj.2⟩)⟩) (fun i hi => by by_cases e : i = x; (subst e; intro z; rcases z with ⟨z1, z2⟩ | ⟨z1, z2⟩; (first | exact qA z1 | exact hea z2); (first | exact qB z1 | exact heb z2)); exact hall i (by omega)) hop hF hR (lv_sub hl [5, 6, 7, 2, 1, 0] rfl)
        · skip
          refine lv_iload hx hb dX1_oneBeginsTheOther_56 (lv_at hl 1 rfl) ?_
          refine lv_if_eq (tgt := 65) hx hb dX1_oneBeginsTheOther_58 (by decide) (fun z => by first | exact absurd z (by decide) | exact absurd (by decide) z) (fun _ => ?_)
          refine lv_iload_n hx hb dX1_oneBeginsTheOther_61 rfl (lv_at hl 5 rfl) ?_
          refine lv_if_ne (tgt := 75) hx hb dX1_oneBeginsTheOther_62 (by decide) (fun z => by first | exact absurd z (by decide) | exact absurd (by decide) z) (fun _ => ?_)
          refine lv_iload hx hb dX1_oneBeginsTheOther_65 (lv_at hl 0 rfl) ?_
          refine lv_if_eq (tgt := 77) hx hb dX1_oneBeginsTheOther_67 (by decide) (fun _ => ?_) (fun z => by first | exact absurd z (by decide) | exact absurd (by decide) z)
          refine lv_iload_n hx hb dX1_oneBeginsTheOther_77 rfl (lv_at hl 5 rfl) ?_
          refine lv_if_ne (tgt := 91) hx hb dX1_oneBeginsTheOther_78 (by decide) (fun z => by first | exact absurd z (by decide) | exact absurd (by decide) z) (fun _ => ?_)
          refine lv_iload hx hb dX1_oneBeginsTheOther_81 (lv_at hl 0 rfl) ?_
          refine lv_if_eq (tgt := 95) hx hb dX1_oneBeginsTheOther_83 (by decide) (fun _ => ?_) (fun z => by first | exact absurd z (by decide) | exact absurd (by decide) z)
          refine lv_iconst (v := nI 0) hx hb dX1_oneBeginsTheOther_95 (by decide) ?_
          refine lv_istore_n (lv' := [(3, .int (nI 0)), (7, .int 0), (6, .int 1), (0, .ref Hi), (1, .ref h), (2, .ref h'), (4, .int 0), (5, .int (nI x))]) hx hb dX1_oneBeginsTheOther_96 rfl hl (by decide) rfl (fun ls hl => ?_)
          refine lv_iload hx hb dX1_oneBeginsTheOther_97 (lv_at hl 6 rfl) ?_
          refine lv_if_ne (tgt := 112) hx hb dX1_oneBeginsTheOther_99 (by decide) (fun z => by first | exact absurd z (by decide) | exact absurd (by decide) z) (fun _ => ?_)
          refine lv_iload hx hb dX1_oneBeginsTheOther_102 (lv_at hl 2 rfl) ?_
          refine lv_if_eq (tgt := 116) hx hb dX1_oneBeginsTheOther_104 (by decide) (fun z => by first | exact absurd z (by decide) | exact absurd (by decide) z) (fun _ => ?_)
          refine lv_iload hx hb dX1_oneBeginsTheOther_107 (lv_at hl 1 rfl) ?_
          refine lv_if_ne (tgt := 116) hx hb dX1_oneBeginsTheOther_109 (by decide) (fun z => by first | exact absurd z (by decide) | exact absurd (by decide) z) (fun _ => ?_)
          refine lv_iconst (v := nI 1) hx hb dX1_oneBeginsTheOther_112 (by decide) ?_
          refine lv_goto (tgt := 117) hx hb dX1_oneBeginsTheOther_113 (by decide) ?_
          refine lv_istore (lv' := [(4, .int (nI 1)), (3, .int (nI 0)), (7, .int 0), (6, .int 1), (0, .ref Hi), (1, .ref h), (2, .ref h'), (5, .int (nI x))]) hx hb dX1_oneBeginsTheOther_117 hl (by decide) rfl (fun ls hl => ?_)
          refine lv_iinc (v := (nI (x + 1))) (lv' := [(5, .int (nI (x + 1))), (4, .int (nI 1)), (3, .int (nI 0)), (7, .int 0), (6, .int 1), (0, .ref Hi), (1, .ref h), (2, .ref h')]) hx hb dX1_oneBeginsTheOther_119 hl (k := 7) rfl (by rw [show Int32.ofInt 1 = nI 1 from by decide]; exact nI_add _ _) (by decide) rfl (fun ls hl => ?_)
          refine lv_goto (tgt := 8) hx hb dX1_oneBeginsTheOther_122 (by decide) ?_
          exact ih (x + 1) (nI 0) (nI 1) _ H locs ls (by omega) (by omega) (Or.inr ⟨rfl, fun z => by obtain ⟨j, h1, h2, h3⟩ := z; by_cases e : j = x; (subst e; first | exact h3 qA | exact qB h2); exact hea ⟨j, by omega, h2, h3⟩⟩) (Or.inl ⟨rfl, ⟨x, by omega, qA, qB⟩⟩) (fun i hi => by by_cases e : i = x; (subst e; intro z; rcases z with ⟨z1, z2⟩ | ⟨z1, z2⟩; (first | exact qA z1 | exact hea z2); (first | exact qB z1 | exact heb z2)); exact hall i (by omega)) hop hF hR (lv_sub hl [5, 6, 7, 2, 1, 0] rfl)
        · skip
          refine lv_iload hx hb dX1_oneBeginsTheOther_56 (lv_at hl 1 rfl) ?_
          refine lv_if_eq (tgt := 65) hx hb dX1_oneBeginsTheOther_58 (by decide) (fun _ => ?_) (fun z => by first | exact absurd z (by decide) | exact absurd (by decide) z)
          refine lv_iload hx hb dX1_oneBeginsTheOther_65 (lv_at hl 0 rfl) ?_
          refine lv_if_eq (tgt := 77) hx hb dX1_oneBeginsTheOther_67 (by decide) (fun z => by first | exact absurd z (by decide) | exact absurd (by decide) z) (fun _ => ?_)
          refine lv_iload hx hb dX1_oneBeginsTheOther_70 (lv_at hl 6 rfl) ?_
          refine lv_if_eq (tgt := 77) hx hb dX1_oneBeginsTheOther_72 (by decide) (fun z => by first | exact absurd z (by decide) | exact absurd (by decide) z) (fun _ => ?_)
          refine lv_iconst (v := nI 0) hx hb dX1_oneBeginsTheOther_75 (by decide) ?_
          exact mm_zret S hr hlocks (by decide) hR ⟨Or.inr ⟨rfl, fun z => z x (by omega) (Or.inr ⟨qB, heb⟩)⟩, hF⟩ dX1_oneBeginsTheOther_76
        · skip
          refine lv_iload hx hb dX1_oneBeginsTheOther_56 (lv_at hl 1 rfl) ?_
          refine lv_if_eq (tgt := 65) hx hb dX1_oneBeginsTheOther_58 (by decide) (fun _ => ?_) (fun z => by first | exact absurd z (by decide) | exact absurd (by decide) z)
          refine lv_iload hx hb dX1_oneBeginsTheOther_65 (lv_at hl 0 rfl) ?_
          refine lv_if_eq (tgt := 77) hx hb dX1_oneBeginsTheOther_67 (by decide) (fun z => by first | exact absurd z (by decide) | exact absurd (by decide) z) (fun _ => ?_)
          refine lv_iload hx hb dX1_oneBeginsTheOther_70 (lv_at hl 6 rfl) ?_
          refine lv_if_eq (tgt := 77) hx hb dX1_oneBeginsTheOther_72 (by decide) (fun _ => ?_) (fun z => by first | exact absurd z (by decide) | exact absurd (by decide) z)
          refine lv_iload_n hx hb dX1_oneBeginsTheOther_77 rfl (lv_at hl 5 rfl) ?_
          refine lv_if_ne (tgt := 91) hx hb dX1_oneBeginsTheOther_78 (by decide) (fun _ => ?_) (fun z => by first | exact absurd z (by decide) | exact absurd (by decide) z)
          refine lv_iconst (v := nI 1) hx hb dX1_oneBeginsTheOther_91 (by decide) ?_
          refine lv_goto (tgt := 96) hx hb dX1_oneBeginsTheOther_92 (by decide) ?_
          refine lv_istore_n (lv' := [(3, .int (nI 1)), (7, .int 1), (6, .int 0), (0, .ref Hi), (1, .ref h), (2, .ref h'), (4, .int 0), (5, .int (nI x))]) hx hb dX1_oneBeginsTheOther_96 rfl hl (by decide) rfl (fun ls hl => ?_)
          refine lv_iload hx hb dX1_oneBeginsTheOther_97 (lv_at hl 6 rfl) ?_
          refine lv_if_ne (tgt := 112) hx hb dX1_oneBeginsTheOther_99 (by decide) (fun z => by first | exact absurd z (by decide) | exact absurd (by decide) z) (fun _ => ?_)
          refine lv_iload hx hb dX1_oneBeginsTheOther_102 (lv_at hl 2 rfl) ?_
          refine lv_if_eq (tgt := 116) hx hb dX1_oneBeginsTheOther_104 (by decide) (fun _ => ?_) (fun z => by first | exact absurd z (by decide) | exact absurd (by decide) z)
          refine lv_iconst (v := nI 0) hx hb dX1_oneBeginsTheOther_116 (by decide) ?_
          refine lv_istore (lv' := [(4, .int (nI 0)), (3, .int (nI 1)), (7, .int 1), (6, .int 0), (0, .ref Hi), (1, .ref h), (2, .ref h'), (5, .int (nI x))]) hx hb dX1_oneBeginsTheOther_117 hl (by decide) rfl (fun ls hl => ?_)
          refine lv_iinc (v := (nI (x + 1))) (lv' := [(5, .int (nI (x + 1))), (4, .int (nI 0)), (3, .int (nI 1)), (7, .int 1), (6, .int 0), (0, .ref Hi), (1, .ref h), (2, .ref h')]) hx hb dX1_oneBeginsTheOther_119 hl (k := 7) rfl (by rw [show Int32.ofInt 1 = nI 1 from by decide]; exact nI_add _ _) (by decide) rfl (fun ls hl => ?_)
          refine lv_goto (tgt := 8) hx hb dX1_oneBeginsTheOther_122 (by decide) ?_
          exact ih (x + 1) (nI 1) (nI 0) _ H locs ls (by omega) (by omega) (Or.inl ⟨rfl, hea.imp (fun j hj => ⟨by omega, hj.2⟩)⟩) (Or.inr ⟨rfl, fun z => by obtain ⟨j, h1, h2, h3⟩ := z; by_cases e : j = x; (subst e; first | exact h3 qB | exact qA h2); exact heb ⟨j, by omega, h2, h3⟩⟩) (fun i hi => by by_cases e : i = x; (subst e; intro z; rcases z with ⟨z1, z2⟩ | ⟨z1, z2⟩; (first | exact qA z1 | exact hea z2); (first | exact qB z1 | exact heb z2)); exact hall i (by omega)) hop hF hR (lv_sub hl [5, 6, 7, 2, 1, 0] rfl)
        · skip
          refine lv_iload hx hb dX1_oneBeginsTheOther_56 (lv_at hl 1 rfl) ?_
          refine lv_if_eq (tgt := 65) hx hb dX1_oneBeginsTheOther_58 (by decide) (fun _ => ?_) (fun z => by first | exact absurd z (by decide) | exact absurd (by decide) z)
          refine lv_iload hx hb dX1_oneBeginsTheOther_65 (lv_at hl 0 rfl) ?_
          refine lv_if_eq (tgt := 77) hx hb dX1_oneBeginsTheOther_67 (by decide) (fun z => by first | exact absurd z (by decide) | exact absurd (by decide) z) (fun _ => ?_)
          refine lv_iload hx hb dX1_oneBeginsTheOther_70 (lv_at hl 6 rfl) ?_
          refine lv_if_eq (tgt := 77) hx hb dX1_oneBeginsTheOther_72 (by decide) (fun z => by first | exact absurd z (by decide) | exact absurd (by decide) z) (fun _ => ?_)
          refine lv_iconst (v := nI 0) hx hb dX1_oneBeginsTheOther_75 (by decide) ?_
          exact mm_zret S hr hlocks (by decide) hR ⟨Or.inr ⟨rfl, fun z => z x (by omega) (Or.inr ⟨qB, heb⟩)⟩, hF⟩ dX1_oneBeginsTheOther_76
        · skip
          refine lv_iload hx hb dX1_oneBeginsTheOther_56 (lv_at hl 1 rfl) ?_
          refine lv_if_eq (tgt := 65) hx hb dX1_oneBeginsTheOther_58 (by decide) (fun _ => ?_) (fun z => by first | exact absurd z (by decide) | exact absurd (by decide) z)
          refine lv_iload hx hb dX1_oneBeginsTheOther_65 (lv_at hl 0 rfl) ?_
          refine lv_if_eq (tgt := 77) hx hb dX1_oneBeginsTheOther_67 (by decide) (fun z => by first | exact absurd z (by decide) | exact absurd (by decide) z) (fun _ => ?_)
          refine lv_iload hx hb dX1_oneBeginsTheOther_70 (lv_at hl 6 rfl) ?_
          refine lv_if_eq (tgt := 77) hx hb dX1_oneBeginsTheOther_72 (by decide) (fun _ => ?_) (fun z => by first | exact absurd z (by decide) | exact absurd (by decide) z)
          refine lv_iload_n hx hb dX1_oneBeginsTheOther_77 rfl (lv_at hl 5 rfl) ?_
          refine lv_if_ne (tgt := 91) hx hb dX1_oneBeginsTheOther_78 (by decide) (fun z => by first | exact absurd z (by decide) | exact absurd (by decide) z) (fun _ => ?_)
          refine lv_iload hx hb dX1_oneBeginsTheOther_81 (lv_at hl 0 rfl) ?_
          refine lv_if_eq (tgt := 95) hx hb dX1_oneBeginsTheOther_83 (by decide) (fun z => by first | exact absurd z (by decide) | exact absurd (by decide) z) (fun _ => ?_)
          refine lv_iload hx hb dX1_oneBeginsTheOther_86 (lv_at hl 1 rfl) ?_
          refine lv_if_ne (tgt := 95) hx hb dX1_oneBeginsTheOther_88 (by decide) (fun z => by first | exact absurd z (by decide) | exact absurd (by decide) z) (fun _ => ?_)
          refine lv_iconst (v := nI 1) hx hb dX1_oneBeginsTheOther_91 (by decide) ?_
          refine lv_goto (tgt := 96) hx hb dX1_oneBeginsTheOther_92 (by decide) ?_
          refine lv_istore_n (lv' := [(3, .int (nI 1)), (7, .int 1), (6, .int 0), (0, .ref Hi), (1, .ref h), (2, .ref h'), (4, .int 0), (5, .int (nI x))]) hx hb dX1_oneBeginsTheOther_96 rfl hl (by decide) rfl (fun ls hl => ?_)
          refine lv_iload hx hb dX1_oneBeginsTheOther_97 (lv_at hl 6 rfl) ?_
          refine lv_if_ne (tgt := 112) hx hb dX1_oneBeginsTheOther_99 (by decide) (fun z => by first | exact absurd z (by decide) | exact absurd (by decide) z) (fun _ => ?_)
          refine lv_iload hx hb dX1_oneBeginsTheOther_102 (lv_at hl 2 rfl) ?_
          refine lv_if_eq (tgt := 116) hx hb dX1_oneBeginsTheOther_104 (by decide) (fun _ => ?_) (fun z => by first | exact absurd z (by decide) | exact absurd (by decide) z)
          refine lv_iconst (v := nI 0) hx hb dX1_oneBeginsTheOther_116 (by decide) ?_
          refine lv_istore (lv' := [(4, .int (nI 0)), (3, .int (nI 1)), (7, .int 1), (6, .int 0), (0, .ref Hi), (1, .ref h), (2, .ref h'), (5, .int (nI x))]) hx hb dX1_oneBeginsTheOther_117 hl (by decide) rfl (fun ls hl => ?_)
          refine lv_iinc (v := (nI (x + 1))) (lv' := [(5, .int (nI (x + 1))), (4, .int (nI 0)), (3, .int (nI 1)), (7, .int 1), (6, .int 0), (0, .ref Hi), (1, .ref h), (2, .ref h')]) hx hb dX1_oneBeginsTheOther_119 hl (k := 7) rfl (by rw [show Int32.ofInt 1 = nI 1 from by decide]; exact nI_add _ _) (by decide) rfl (fun ls hl => ?_)
          refine lv_goto (tgt := 8) hx hb dX1_oneBeginsTheOther_122 (by decide) ?_
          exact ih (x + 1) (nI 1) (nI 0) _ H locs ls (by omega) (by omega) (Or.inl ⟨rfl, ⟨x, by omega, qB, qA⟩⟩) (Or.inr ⟨rfl, fun z => by obtain ⟨j, h1, h2, h3⟩ := z; by_cases e : j = x; (subst e; first | exact h3 qB | exact qA h2); exact heb ⟨j, by omega, h2, h3⟩⟩) (fun i hi => by by_cases e : i = x; (subst e; intro z; rcases z with ⟨z1, z2⟩ | ⟨z1, z2⟩; (first | exact qA z1 | exact hea z2); (first | exact qB z1 | exact heb z2)); exact hall i (by omega)) hop hF hR (lv_sub hl [5, 6, 7, 2, 1, 0] rfl)
        · skip
          refine lv_iload hx hb dX1_oneBeginsTheOther_56 (lv_at hl 1 rfl) ?_
          refine lv_if_eq (tgt := 65) hx hb dX1_oneBeginsTheOther_58 (by decide) (fun _ => ?_) (fun z => by first | exact absurd z (by decide) | exact absurd (by decide) z)
          refine lv_iload hx hb dX1_oneBeginsTheOther_65 (lv_at hl 0 rfl) ?_
          refine lv_if_eq (tgt := 77) hx hb dX1_oneBeginsTheOther_67 (by decide) (fun _ => ?_) (fun z => by first | exact absurd z (by decide) | exact absurd (by decide) z)
          refine lv_iload_n hx hb dX1_oneBeginsTheOther_77 rfl (lv_at hl 5 rfl) ?_
          refine lv_if_ne (tgt := 91) hx hb dX1_oneBeginsTheOther_78 (by decide) (fun _ => ?_) (fun z => by first | exact absurd z (by decide) | exact absurd (by decide) z)
          refine lv_iconst (v := nI 1) hx hb dX1_oneBeginsTheOther_91 (by decide) ?_
          refine lv_goto (tgt := 96) hx hb dX1_oneBeginsTheOther_92 (by decide) ?_
          refine lv_istore_n (lv' := [(3, .int (nI 1)), (7, .int 0), (6, .int 0), (0, .ref Hi), (1, .ref h), (2, .ref h'), (4, .int 1), (5, .int (nI x))]) hx hb dX1_oneBeginsTheOther_96 rfl hl (by decide) rfl (fun ls hl => ?_)
          refine lv_iload hx hb dX1_oneBeginsTheOther_97 (lv_at hl 6 rfl) ?_
          refine lv_if_ne (tgt := 112) hx hb dX1_oneBeginsTheOther_99 (by decide) (fun _ => ?_) (fun z => by first | exact absurd z (by decide) | exact absurd (by decide) z)
          refine lv_iconst (v := nI 1) hx hb dX1_oneBeginsTheOther_112 (by decide) ?_
          refine lv_goto (tgt := 117) hx hb dX1_oneBeginsTheOther_113 (by decide) ?_
          refine lv_istore (lv' := [(4, .int (nI 1)), (3, .int (nI 1)), (7, .int 0), (6, .int 0), (0, .ref Hi), (1, .ref h), (2, .ref h'), (5, .int (nI x))]) hx hb dX1_oneBeginsTheOther_117 hl (by decide) rfl (fun ls hl => ?_)
          refine lv_iinc (v := (nI (x + 1))) (lv' := [(5, .int (nI (x + 1))), (4, .int (nI 1)), (3, .int (nI 1)), (7, .int 0), (6, .int 0), (0, .ref Hi), (1, .ref h), (2, .ref h')]) hx hb dX1_oneBeginsTheOther_119 hl (k := 7) rfl (by rw [show Int32.ofInt 1 = nI 1 from by decide]; exact nI_add _ _) (by decide) rfl (fun ls hl => ?_)
          refine lv_goto (tgt := 8) hx hb dX1_oneBeginsTheOther_122 (by decide) ?_
          exact ih (x + 1) (nI 1) (nI 1) _ H locs ls (by omega) (by omega) (Or.inl ⟨rfl, hea.imp (fun j hj => ⟨by omega, hj.2⟩)⟩) (Or.inl ⟨rfl, heb.imp (fun j hj => ⟨by omega, hj.2⟩)⟩) (fun i hi => by by_cases e : i = x; (subst e; intro z; rcases z with ⟨z1, z2⟩ | ⟨z1, z2⟩; (first | exact qA z1 | exact hea z2); (first | exact qB z1 | exact heb z2)); exact hall i (by omega)) hop hF hR (lv_sub hl [5, 6, 7, 2, 1, 0] rfl)
        · skip
          refine lv_iload hx hb dX1_oneBeginsTheOther_56 (lv_at hl 1 rfl) ?_
          refine lv_if_eq (tgt := 65) hx hb dX1_oneBeginsTheOther_58 (by decide) (fun _ => ?_) (fun z => by first | exact absurd z (by decide) | exact absurd (by decide) z)
          refine lv_iload hx hb dX1_oneBeginsTheOther_65 (lv_at hl 0 rfl) ?_
          refine lv_if_eq (tgt := 77) hx hb dX1_oneBeginsTheOther_67 (by decide) (fun _ => ?_) (fun z => by first | exact absurd z (by decide) | exact absurd (by decide) z)
          refine lv_iload_n hx hb dX1_oneBeginsTheOther_77 rfl (lv_at hl 5 rfl) ?_
          refine lv_if_ne (tgt := 91) hx hb dX1_oneBeginsTheOther_78 (by decide) (fun _ => ?_) (fun z => by first | exact absurd z (by decide) | exact absurd (by decide) z)
          refine lv_iconst (v := nI 1) hx hb dX1_oneBeginsTheOther_91 (by decide) ?_
          refine lv_goto (tgt := 96) hx hb dX1_oneBeginsTheOther_92 (by decide) ?_
          refine lv_istore_n (lv' := [(3, .int (nI 1)), (7, .int 0), (6, .int 0), (0, .ref Hi), (1, .ref h), (2, .ref h'), (4, .int 0), (5, .int (nI x))]) hx hb dX1_oneBeginsTheOther_96 rfl hl (by decide) rfl (fun ls hl => ?_)
          refine lv_iload hx hb dX1_oneBeginsTheOther_97 (lv_at hl 6 rfl) ?_
          refine lv_if_ne (tgt := 112) hx hb dX1_oneBeginsTheOther_99 (by decide) (fun z => by first | exact absurd z (by decide) | exact absurd (by decide) z) (fun _ => ?_)
          refine lv_iload hx hb dX1_oneBeginsTheOther_102 (lv_at hl 2 rfl) ?_
          refine lv_if_eq (tgt := 116) hx hb dX1_oneBeginsTheOther_104 (by decide) (fun _ => ?_) (fun z => by first | exact absurd z (by decide) | exact absurd (by decide) z)
          refine lv_iconst (v := nI 0) hx hb dX1_oneBeginsTheOther_116 (by decide) ?_
          refine lv_istore (lv' := [(4, .int (nI 0)), (3, .int (nI 1)), (7, .int 0), (6, .int 0), (0, .ref Hi), (1, .ref h), (2, .ref h'), (5, .int (nI x))]) hx hb dX1_oneBeginsTheOther_117 hl (by decide) rfl (fun ls hl => ?_)
          refine lv_iinc (v := (nI (x + 1))) (lv' := [(5, .int (nI (x + 1))), (4, .int (nI 0)), (3, .int (nI 1)), (7, .int 0), (6, .int 0), (0, .ref Hi), (1, .ref h), (2, .ref h')]) hx hb dX1_oneBeginsTheOther_119 hl (k := 7) rfl (by rw [show Int32.ofInt 1 = nI 1 from by decide]; exact nI_add _ _) (by decide) rfl (fun ls hl => ?_)
          refine lv_goto (tgt := 8) hx hb dX1_oneBeginsTheOther_122 (by decide) ?_
          exact ih (x + 1) (nI 1) (nI 0) _ H locs ls (by omega) (by omega) (Or.inl ⟨rfl, hea.imp (fun j hj => ⟨by omega, hj.2⟩)⟩) (Or.inr ⟨rfl, fun z => by obtain ⟨j, h1, h2, h3⟩ := z; by_cases e : j = x; (subst e; first | exact h3 qB | exact qA h2); exact heb ⟨j, by omega, h2, h3⟩⟩) (fun i hi => by by_cases e : i = x; (subst e; intro z; rcases z with ⟨z1, z2⟩ | ⟨z1, z2⟩; (first | exact qA z1 | exact hea z2); (first | exact qB z1 | exact heb z2)); exact hall i (by omega)) hop hF hR (lv_sub hl [5, 6, 7, 2, 1, 0] rfl)
        · skip
          refine lv_iload hx hb dX1_oneBeginsTheOther_56 (lv_at hl 1 rfl) ?_
          refine lv_if_eq (tgt := 65) hx hb dX1_oneBeginsTheOther_58 (by decide) (fun _ => ?_) (fun z => by first | exact absurd z (by decide) | exact absurd (by decide) z)
          refine lv_iload hx hb dX1_oneBeginsTheOther_65 (lv_at hl 0 rfl) ?_
          refine lv_if_eq (tgt := 77) hx hb dX1_oneBeginsTheOther_67 (by decide) (fun _ => ?_) (fun z => by first | exact absurd z (by decide) | exact absurd (by decide) z)
          refine lv_iload_n hx hb dX1_oneBeginsTheOther_77 rfl (lv_at hl 5 rfl) ?_
          refine lv_if_ne (tgt := 91) hx hb dX1_oneBeginsTheOther_78 (by decide) (fun z => by first | exact absurd z (by decide) | exact absurd (by decide) z) (fun _ => ?_)
          refine lv_iload hx hb dX1_oneBeginsTheOther_81 (lv_at hl 0 rfl) ?_
          refine lv_if_eq (tgt := 95) hx hb dX1_oneBeginsTheOther_83 (by decide) (fun _ => ?_) (fun z => by first | exact absurd z (by decide) | exact absurd (by decide) z)
          refine lv_iconst (v := nI 0) hx hb dX1_oneBeginsTheOther_95 (by decide) ?_
          refine lv_istore_n (lv' := [(3, .int (nI 0)), (7, .int 0), (6, .int 0), (0, .ref Hi), (1, .ref h), (2, .ref h'), (4, .int 1), (5, .int (nI x))]) hx hb dX1_oneBeginsTheOther_96 rfl hl (by decide) rfl (fun ls hl => ?_)
          refine lv_iload hx hb dX1_oneBeginsTheOther_97 (lv_at hl 6 rfl) ?_
          refine lv_if_ne (tgt := 112) hx hb dX1_oneBeginsTheOther_99 (by decide) (fun _ => ?_) (fun z => by first | exact absurd z (by decide) | exact absurd (by decide) z)
          refine lv_iconst (v := nI 1) hx hb dX1_oneBeginsTheOther_112 (by decide) ?_
          refine lv_goto (tgt := 117) hx hb dX1_oneBeginsTheOther_113 (by decide) ?_
          refine lv_istore (lv' := [(4, .int (nI 1)), (3, .int (nI 0)), (7, .int 0), (6, .int 0), (0, .ref Hi), (1, .ref h), (2, .ref h'), (5, .int (nI x))]) hx hb dX1_oneBeginsTheOther_117 hl (by decide) rfl (fun ls hl => ?_)
          refine lv_iinc (v := (nI (x + 1))) (lv' := [(5, .int (nI (x + 1))), (4, .int (nI 1)), (3, .int (nI 0)), (7, .int 0), (6, .int 0), (0, .ref Hi), (1, .ref h), (2, .ref h')]) hx hb dX1_oneBeginsTheOther_119 hl (k := 7) rfl (by rw [show Int32.ofInt 1 = nI 1 from by decide]; exact nI_add _ _) (by decide) rfl (fun ls hl => ?_)
          refine lv_goto (tgt := 8) hx hb dX1_oneBeginsTheOther_122 (by decide) ?_
          exact ih (x + 1) (nI 0) (nI 1) _ H locs ls (by omega) (by omega) (Or.inr ⟨rfl, fun z => by obtain ⟨j, h1, h2, h3⟩ := z; by_cases e : j = x; (subst e; first | exact h3 qA | exact qB h2); exact hea ⟨j, by omega, h2, h3⟩⟩) (Or.inl ⟨rfl, heb.imp (fun j hj => ⟨by omega, hj.2⟩)⟩) (fun i hi => by by_cases e : i = x; (subst e; intro z; rcases z with ⟨z1, z2⟩ | ⟨z1, z2⟩; (first | exact qA z1 | exact hea z2); (first | exact qB z1 | exact heb z2)); exact hall i (by omega)) hop hF hR (lv_sub hl [5, 6, 7, 2, 1, 0] rfl)
        · skip
          refine lv_iload hx hb dX1_oneBeginsTheOther_56 (lv_at hl 1 rfl) ?_
          refine lv_if_eq (tgt := 65) hx hb dX1_oneBeginsTheOther_58 (by decide) (fun _ => ?_) (fun z => by first | exact absurd z (by decide) | exact absurd (by decide) z)
          refine lv_iload hx hb dX1_oneBeginsTheOther_65 (lv_at hl 0 rfl) ?_
          refine lv_if_eq (tgt := 77) hx hb dX1_oneBeginsTheOther_67 (by decide) (fun _ => ?_) (fun z => by first | exact absurd z (by decide) | exact absurd (by decide) z)
          refine lv_iload_n hx hb dX1_oneBeginsTheOther_77 rfl (lv_at hl 5 rfl) ?_
          refine lv_if_ne (tgt := 91) hx hb dX1_oneBeginsTheOther_78 (by decide) (fun z => by first | exact absurd z (by decide) | exact absurd (by decide) z) (fun _ => ?_)
          refine lv_iload hx hb dX1_oneBeginsTheOther_81 (lv_at hl 0 rfl) ?_
          refine lv_if_eq (tgt := 95) hx hb dX1_oneBeginsTheOther_83 (by decide) (fun _ => ?_) (fun z => by first | exact absurd z (by decide) | exact absurd (by decide) z)
          refine lv_iconst (v := nI 0) hx hb dX1_oneBeginsTheOther_95 (by decide) ?_
          refine lv_istore_n (lv' := [(3, .int (nI 0)), (7, .int 0), (6, .int 0), (0, .ref Hi), (1, .ref h), (2, .ref h'), (4, .int 0), (5, .int (nI x))]) hx hb dX1_oneBeginsTheOther_96 rfl hl (by decide) rfl (fun ls hl => ?_)
          refine lv_iload hx hb dX1_oneBeginsTheOther_97 (lv_at hl 6 rfl) ?_
          refine lv_if_ne (tgt := 112) hx hb dX1_oneBeginsTheOther_99 (by decide) (fun z => by first | exact absurd z (by decide) | exact absurd (by decide) z) (fun _ => ?_)
          refine lv_iload hx hb dX1_oneBeginsTheOther_102 (lv_at hl 2 rfl) ?_
          refine lv_if_eq (tgt := 116) hx hb dX1_oneBeginsTheOther_104 (by decide) (fun _ => ?_) (fun z => by first | exact absurd z (by decide) | exact absurd (by decide) z)
          refine lv_iconst (v := nI 0) hx hb dX1_oneBeginsTheOther_116 (by decide) ?_
          refine lv_istore (lv' := [(4, .int (nI 0)), (3, .int (nI 0)), (7, .int 0), (6, .int 0), (0, .ref Hi), (1, .ref h), (2, .ref h'), (5, .int (nI x))]) hx hb dX1_oneBeginsTheOther_117 hl (by decide) rfl (fun ls hl => ?_)
          refine lv_iinc (v := (nI (x + 1))) (lv' := [(5, .int (nI (x + 1))), (4, .int (nI 0)), (3, .int (nI 0)), (7, .int 0), (6, .int 0), (0, .ref Hi), (1, .ref h), (2, .ref h')]) hx hb dX1_oneBeginsTheOther_119 hl (k := 7) rfl (by rw [show Int32.ofInt 1 = nI 1 from by decide]; exact nI_add _ _) (by decide) rfl (fun ls hl => ?_)
          refine lv_goto (tgt := 8) hx hb dX1_oneBeginsTheOther_122 (by decide) ?_
          exact ih (x + 1) (nI 0) (nI 0) _ H locs ls (by omega) (by omega) (Or.inr ⟨rfl, fun z => by obtain ⟨j, h1, h2, h3⟩ := z; by_cases e : j = x; (subst e; first | exact h3 qA | exact qB h2); exact hea ⟨j, by omega, h2, h3⟩⟩) (Or.inr ⟨rfl, fun z => by obtain ⟨j, h1, h2, h3⟩ := z; by_cases e : j = x; (subst e; first | exact h3 qB | exact qA h2); exact heb ⟨j, by omega, h2, h3⟩⟩) (fun i hi => by by_cases e : i = x; (subst e; intro z; rcases z with ⟨z1, z2⟩ | ⟨z1, z2⟩; (first | exact qA z1 | exact hea z2); (first | exact qB z1 | exact heb z2)); exact hall i (by omega)) hop hF hR (lv_sub hl [5, 6, 7, 2, 1, 0] rfl)
  exact loop (no + 1) 0 (nI 0) (nI 0) _ _ _ ls (by omega) (by omega) (Or.inr ⟨rfl, fun ⟨j, hj, _⟩ => by omega⟩) (Or.inr ⟨rfl, fun ⟨j, hj, _⟩ => by omega⟩) (fun i hi => by omega) hop hF hR (lv_sub hl [3, 4, 5, 2, 1, 0] rfl)
