/-- the store -/
theorem xe_store {G : mm_G} {A : Nat → Prop} {s : State} {H : Heap} {locs : List Loc} {M M' : mm_M} {ad : Nat → Nat} {cl ll : Nat} {chg wl sp : Int32} {co lr : Nat → Int32} {sh : Nat → Nat} {rem : Nat → Nat → Int32} {nw : Nat} {wst : Nat → Nat → Nat → Int32} {wfc wfl wtn : Nat → Nat → Int32} {wln : Nat → Nat → Nat} {no : Nat} {op : Nat → OpT} {dc : Nat → Nat}  (hC : mm_C G A s) (hR0 : mm_R G s A M H locs) (hxa : xA G M ad cl ll chg wl sp co lr sh rem nw wst wfc wfl wtn wln no op dc) (hI : xI ad nw no) (h18 : no = 0 → ad 18 = G.2.2.2.2.1) (hnw : nw ≤ 6) (hs : ∃ fc fl, fiA G M' (ad 20) (ad 21) (ad 22) fc fl) (ff : mm_fr ([21, 22].map ad) M M') : xA G M' ad cl ll chg wl sp co lr sh rem nw wst wfc wfl wtn wln no op dc ∧ xF ad nw no M M' := by
  have hrs : ∀ z, z ∈ [21, 22] → xD nw no z := by
    intro z hz
    simp only [List.mem_cons, List.not_mem_nil, or_false] at hz
    unfold xD
    omega
  obtain ⟨u0, u1, u2, u3, u4, u5, u6, u7, u8, u9, u10, u11, u12, u13, u14⟩ := xA.fr (rs := [21, 22]) hxa hI ff hrs
  exact ⟨⟨u0 (by simp only [List.mem_cons, List.not_mem_nil, or_false]; omega), u1 (by simp only [List.mem_cons, List.not_mem_nil, or_false]; omega) (by simp only [List.mem_cons, List.not_mem_nil, or_false]; omega) (by simp only [List.mem_cons, List.not_mem_nil, or_false]; omega), u2 (by simp only [List.mem_cons, List.not_mem_nil, or_false]; omega) (by simp only [List.mem_cons, List.not_mem_nil, or_false]; omega) (by simp only [List.mem_cons, List.not_mem_nil, or_false]; omega) (by simp only [List.mem_cons, List.not_mem_nil, or_false]; omega) (by simp only [List.mem_cons, List.not_mem_nil, or_false]; omega), u3 (by simp only [List.mem_cons, List.not_mem_nil, or_false]; omega), u4 (by simp only [List.mem_cons, List.not_mem_nil, or_false]; omega) (by simp only [List.mem_cons, List.not_mem_nil, or_false]; omega), u5 (by simp only [List.mem_cons, List.not_mem_nil, or_false]; omega), fun k hk => u6 k hk (by simp only [List.mem_cons, List.not_mem_nil, or_false]; omega) (by simp only [List.mem_cons, List.not_mem_nil, or_false]; omega), u7 (by simp only [List.mem_cons, List.not_mem_nil, or_false]; omega), u8 (by simp only [List.mem_cons, List.not_mem_nil, or_false]; omega), u9 (by simp only [List.mem_cons, List.not_mem_nil, or_false]; omega), u10 (by simp only [List.mem_cons, List.not_mem_nil, or_false]; omega), u11 (by simp only [List.mem_cons, List.not_mem_nil, or_false]; omega) (by simp only [List.mem_cons, List.not_mem_nil, or_false]; omega) (by intro z hz; simp only [List.mem_cons, List.not_mem_nil, or_false] at hz; omega) (xn18 hC hR0 hxa hI h18 (by intro z hz; simp only [List.mem_cons, List.not_mem_nil, or_false] at hz; omega) hrs), u12 (by simp only [List.mem_cons, List.not_mem_nil, or_false]; omega), hs, fun j2 hj2 => u14 j2 hj2 (by intro z hz; simp only [List.mem_cons, List.not_mem_nil, or_false] at hz; omega)⟩, xF.of (rs := [21, 22]) ff hrs⟩

set_option maxHeartbeats 4000000 in
set_option maxRecDepth 100000 in
/-- plain() -/
theorem c_X8_plain (l : Launch) (G : mm_G) (M : mm_M) (sz : Nat) (ad : Nat → Nat) (cl ll : Nat) (chg wl sp : Int32) (co lr : Nat → Int32) (sh : Nat → Nat) (rem : Nat → Nat → Int32) (nw : Nat) (wst : Nat → Nat → Nat → Int32) (wfc wfl wtn : Nat → Nat → Int32) (wln : Nat → Nat → Nat) (no : Nat) (op : Nat → OpT) (dc : Nat → Nat)   (hxa : xA G M ad cl ll chg wl sp co lr sh rem nw wst wfc wfl wtn wln no op dc) (hI : xI ad nw no) (hN : xN cl ll chg sh nw wfc wfl wtn wln no) (h18 : no = 0 → ad 18 = G.2.2.2.2.1) (hno : no < 600) : mm_i l yX8_plain wsX8_plain ({ frames := 5, cells := 0, slots := 0, locals := 160 } : Room) G ([.ref (ad 0)] : List Value) M sz (fun r M' => (r = 1 ∨ (r = 0 ∧ chg = 0 ∧ ((∃ a fc fl, a < 4 ∧ ¬ ansP (rem a) op fc (fl_go fl 0 16) a no) ∨ ∃ a b, a < b ∧ b < 4 ∧ (na (rem a) (rem b) ∨ na (rem b) (rem a)) ∧ ¬ begP (rem a) (rem b) op no))) ∧ xA G M' ad cl ll chg wl sp co lr sh rem nw wst wfc wfl wtn wln no op dc ∧ xF ad nw no M M') := by
  refine mm_enter (cc := cX8_plain) (maxL := 3) (ret := (some .boolean)) _ (by decide) rfl (Nat.le_of_ble_eq_true rfl) ?_
  intro p0 e0 s m0 be0 me0 c0 ls S hr hlocks hname hA hC hR hl
  have hx := S.1
  have hb := S.2.1
  have hl : lv_has ls 3 [(0, .ref (ad 0))] := hl
  have inRJx4a65c : ∀ w ∈ wsJx4a65c0, w ∈ wsX8_plain := by decide +kernel
  have inRX0 : ∀ w ∈ wsX00, w ∈ wsX8_plain := by decide +kernel
  have inRX1 : ∀ w ∈ wsX10, w ∈ wsX8_plain := by decide +kernel
  have inRX3 : ∀ w ∈ wsX30, w ∈ wsX8_plain := by decide +kernel
  have inRX5 : ∀ w ∈ wsX50, w ∈ wsX8_plain := by decide +kernel
  have inRX8 : ∀ w ∈ wsX80, w ∈ wsX8_plain := by decide +kernel
  have hF : mm_fr [] M M := mm_fr.rf
  have hR0 := hR
  obtain ⟨hX, hb1, hb2, ⟨dg, hb3⟩, ⟨lmc, lf, hb4a, hb4b, hb4c⟩, ⟨rf, hb5a, hb5b⟩, hb6, ⟨shf, hb7a, hb7b⟩, hb8, hb9, hb10, hb11, ⟨dnf, hb12a, hb12b⟩, ⟨sfc, sfl, hb13⟩, hb14⟩ := id hxa
  have hZ : mm_fr [] M M := mm_fr.rf
  have hnw := hN.2.2.2.2.1
  have hxf : xF ad nw no M M := xF.rf
  refine lv_aload_n hx hb dX8_plain_0 rfl (lv_at hl 0 rfl) ?_
  refine mm_get S hC hR (C := RX8) (T := TX8) (N := 14) (ref := "ForkWatch") (v := .int chg) 11 hX inRX8 rfl (by decide) (by decide +kernel) (fun _ h9 => h9) rfl dX8_plain_1 ?_
  refine lv_if_eq (tgt := 9) hx hb dX8_plain_4 (by decide) (fun c1 => ?_) (fun c1 => ?_)
  · skip
    refine lv_iconst (v := nI 0) hx hb dX8_plain_9 (by decide) ?_
    refine lv_istore_n (lv' := [(1, .int (nI 0)), (0, .ref (ad 0))]) hx hb dX8_plain_10 rfl hl (by decide) rfl (fun ls hl => ?_)
    have loop : ∀ (n x : Nat) (M1 : mm_M) (H : Heap) (locs : List Loc) (ls : Array Slot), 4 < x + n → x ≤ 4 → xA G M1 ad cl ll chg wl sp co lr sh rem nw wst wfc wfl wtn wln no op dc → xF ad nw no M M1 → mm_R G s (mm_A M sz) M1 H locs → lv_has ls 3 [(0, .ref (ad 0)), (1, .int (nI x))] → W p0 l e0 ({ frames := 5, cells := 0, slots := 0, locals := 160 } : Room) s m0 ([.ref (ad 0)] : List Value).toArray be0 me0 c0 H locs 0 0 (MQ be0 (va_Qi (fun r M' => (r = 1 ∨ (r = 0 ∧ chg = 0 ∧ ((∃ a fc fl, a < 4 ∧ ¬ ansP (rem a) op fc (fl_go fl 0 16) a no) ∨ ∃ a b, a < b ∧ b < 4 ∧ (na (rem a) (rem b) ∨ na (rem b) (rem a)) ∧ ¬ begP (rem a) (rem b) op no))) ∧ xA G M' ad cl ll chg wl sp co lr sh rem nw wst wfc wfl wtn wln no op dc ∧ xF ad nw no M M') (fun M' t => mm_H G (mm_A M sz) M' t.heap) (mm_A M sz)) ([.ref (ad 0)] : List Value).toArray s 0 0 (mm_A M sz)) (F0 m0 11 ls []) := by
      intro n
      induction n with
      | zero =>
        intro x M1 H locs ls hn hx4 hxa hxf hR hl
        omega
      | succ n ih =>
        intro x M1 H locs ls hn hx4 hxa hxf hR hl
        have hR0 := hR
        have hF : mm_fr [] M1 M1 := mm_fr.rf
        have hZ : mm_fr [] M1 M1 := mm_fr.rf
        obtain ⟨hX, hb1, hb2, ⟨dg, hb3⟩, ⟨lmc, lf, hb4a, hb4b, hb4c⟩, ⟨rf, hb5a, hb5b⟩, hb6, ⟨shf, hb7a, hb7b⟩, hb8, hb9, hb10, hb11, ⟨dnf, hb12a, hb12b⟩, ⟨sfc, sfl, hb13⟩, hb14⟩ := id hxa
        refine lv_iload_n hx hb dX8_plain_11 rfl (lv_at hl 1 rfl) ?_
        refine lv_iconst (v := nI 4) hx hb dX8_plain_12 (by decide) ?_
        refine lv_icmp_ge (tgt := 98) hx hb dX8_plain_13 (by decide) (fun c2 => ?_) (fun c2 => ?_)
        · have c2 : 4 ≤ x := (nI_leI (a := 4) (b := x) (by omega) (by omega)).mp c2
          refine lv_iconst (v := nI 1) hx hb dX8_plain_98 (by decide) ?_
          exact mm_zret S hr hlocks (by decide) hR ⟨Or.inl rfl, hxa, hxf⟩ dX8_plain_99
        · have c2 : ¬ (4 ≤ x) := fun z => c2 ((nI_leI (a := 4) (b := x) (by omega) (by omega)).mpr z)
          obtain ⟨k1a, k1b⟩ := hb6 x (by omega)
          have k1a := hZ.at k1a mm_n0
          have k1b := hZ.at k1b mm_n0
          refine lv_aload_n hx hb dX8_plain_16 rfl (lv_at hl 0 rfl) ?_
          refine mm_get S hC hR (C := RX8) (T := TX8) (N := 14) (ref := "ForkWatch") (v := .ref (ad 16)) 10 hX inRX8 rfl (by decide) (by decide +kernel) (fun _ h9 => h9) rfl dX8_plain_17 ?_
          refine lv_iload_n hx hb dX8_plain_20 rfl (lv_at hl 1 rfl) ?_
          refine lv_aload_n hx hb dX8_plain_21 rfl (lv_at hl 0 rfl) ?_
          refine mm_get S hC hR (C := RX8) (T := TX8) (N := 14) (ref := "ForkWatch") (v := .ref (ad 12)) 4 hX inRX8 rfl (by decide) (by decide +kernel) (fun _ h9 => h9) rfl dX8_plain_22 ?_
          refine lv_iload_n hx hb dX8_plain_25 rfl (lv_at hl 1 rfl) ?_
          refine mm_sald S hC hR hb5a (j := x) (v := .ref (ad (24 + 2 * x))) (by omega) (by omega) (by rw [hb5b _ (by omega)]; rfl) dX8_plain_26 ?_
          refine mm_calli hA hR (va_runV (As := [.int (nI x), .ref (ad (24 + 2 * x))]) (rest := []) S (c_X1_isAnsweredPlainly l G M1 _ (ad 16) (ad 17) (ad 19) (ad 20) (ad 21) (ad 22) (ad 18) no (ad (24 + 2 * x)) (ad (25 + 2 * x)) x (fun i => ad (1000 + 2 * i)) (fun i => ad (1001 + 2 * i)) op (rem x) sfc sfl hb10 k1a k1b hb13.1 hb13.2.1 hb13.2.2 hb11 (by omega) (by omega)) (cwV 2 S.2.2.2.2 gX8_plain_X1_isAnsweredPlainly rfl rfl rfl (by decide +kernel) ⟨Nat.le_of_ble_eq_true rfl, Nat.le_of_ble_eq_true rfl⟩) (mm_preV hC hA hR _ hb10 rfl) rfl rfl hl.1 rfl (lv_room (Nat.le_of_ble_eq_true rfl)) dX8_plain_27 ⟨Nat.le_of_ble_eq_true rfl, Nat.le_of_ble_eq_true rfl⟩) (fun r2 M3 H locs hp hR => ?_)
          obtain ⟨qP, hst, ff⟩ := hp
          obtain ⟨hxa, hxg⟩ := xe_store hC hR0 hxa hI h18 hnw hst ff
          have hxf := hxf.tr hxg
          have hR0 := hR
          have hF : mm_fr [] M3 M3 := mm_fr.rf
          have hZ : mm_fr [] M3 M3 := mm_fr.rf
          obtain ⟨hX, hb1, hb2, ⟨dg, hb3⟩, ⟨lmc, lf, hb4a, hb4b, hb4c⟩, ⟨rf, hb5a, hb5b⟩, hb6, ⟨shf, hb7a, hb7b⟩, hb8, hb9, hb10, hb11, ⟨dnf, hb12a, hb12b⟩, ⟨sfc, sfl, hb13⟩, hb14⟩ := id hxa
          rcases qP with ⟨e1, qP⟩ | ⟨e1, qP⟩ <;> subst e1
          · skip
            refine lv_if_ne (tgt := 35) hx hb dX8_plain_30 (by decide) (fun _ => ?_) (fun z => by first | exact absurd z (by decide) | exact absurd (by decide) z)
            refine lv_iload_n hx hb dX8_plain_35 rfl (lv_at hl 1 rfl) ?_
            refine lv_iconst (v := nI 1) hx hb dX8_plain_36 (by decide) ?_
            refine lv_iadd hx hb dX8_plain_37 ?_
            refine mm_eqi (nI_add _ _) ?_
            refine lv_istore_n (lv' := [(2, .int (nI (x + 1))), (0, .ref (ad 0)), (1, .int (nI x))]) hx hb dX8_plain_38 rfl hl (by decide) rfl (fun ls hl => ?_)
            have loop2 : ∀ (n y : Nat) (M1 : mm_M) (H : Heap) (locs : List Loc) (ls : Array Slot), 4 < y + n → y ≤ 4 → x < y → xA G M1 ad cl ll chg wl sp co lr sh rem nw wst wfc wfl wtn wln no op dc → xF ad nw no M M1 → mm_R G s (mm_A M sz) M1 H locs → lv_has ls 3 [(0, .ref (ad 0)), (1, .int (nI x)), (2, .int (nI y))] → W p0 l e0 ({ frames := 5, cells := 0, slots := 0, locals := 160 } : Room) s m0 ([.ref (ad 0)] : List Value).toArray be0 me0 c0 H locs 0 0 (MQ be0 (va_Qi (fun r M' => (r = 1 ∨ (r = 0 ∧ chg = 0 ∧ ((∃ a fc fl, a < 4 ∧ ¬ ansP (rem a) op fc (fl_go fl 0 16) a no) ∨ ∃ a b, a < b ∧ b < 4 ∧ (na (rem a) (rem b) ∨ na (rem b) (rem a)) ∧ ¬ begP (rem a) (rem b) op no))) ∧ xA G M' ad cl ll chg wl sp co lr sh rem nw wst wfc wfl wtn wln no op dc ∧ xF ad nw no M M') (fun M' t => mm_H G (mm_A M sz) M' t.heap) (mm_A M sz)) ([.ref (ad 0)] : List Value).toArray s 0 0 (mm_A M sz)) (F0 m0 39 ls []) := by
              intro k
              induction k with
              | zero =>
                intro y M1 H locs ls hn hy4 hxy hxa hxf hR hl
                omega
              | succ k ih2 =>
                intro y M1 H locs ls hn hy4 hxy hxa hxf hR hl
                have hR0 := hR
                have hF : mm_fr [] M1 M1 := mm_fr.rf
                have hZ : mm_fr [] M1 M1 := mm_fr.rf
                obtain ⟨hX, hb1, hb2, ⟨dg, hb3⟩, ⟨lmc, lf, hb4a, hb4b, hb4c⟩, ⟨rf, hb5a, hb5b⟩, hb6, ⟨shf, hb7a, hb7b⟩, hb8, hb9, hb10, hb11, ⟨dnf, hb12a, hb12b⟩, ⟨sfc, sfl, hb13⟩, hb14⟩ := id hxa
                refine lv_iload_n hx hb dX8_plain_39 rfl (lv_at hl 2 rfl) ?_
                refine lv_iconst (v := nI 4) hx hb dX8_plain_40 (by decide) ?_
                refine lv_icmp_ge (tgt := 92) hx hb dX8_plain_41 (by decide) (fun c3 => ?_) (fun c3 => ?_)
                · have c3 : 4 ≤ y := (nI_leI (a := 4) (b := y) (by omega) (by omega)).mp c3
                  refine lv_iinc (v := (nI (x + 1))) (lv' := [(1, .int (nI (x + 1))), (0, .ref (ad 0)), (2, .int (nI y))]) hx hb dX8_plain_92 hl (k := 1) rfl (by rw [show Int32.ofInt 1 = nI 1 from by decide]; exact nI_add _ _) (by decide) rfl (fun ls hl => ?_)
                  refine lv_goto (tgt := 11) hx hb dX8_plain_95 (by decide) ?_
                  exact ih (x + 1) _ H locs ls (by omega) (by omega) hxa hxf hR (lv_sub hl [1, 0] rfl)
                · have c3 : ¬ (4 ≤ y) := fun z => c3 ((nI_leI (a := 4) (b := y) (by omega) (by omega)).mpr z)
                  obtain ⟨k4a, k4b⟩ := hb6 x (by omega)
                  have k4a := hZ.at k4a mm_n0
                  have k4b := hZ.at k4b mm_n0
                  obtain ⟨k5a, k5b⟩ := hb6 y (by omega)
                  have k5a := hZ.at k5a mm_n0
                  have k5b := hZ.at k5b mm_n0
                  refine lv_aload_n hx hb dX8_plain_44 rfl (lv_at hl 0 rfl) ?_
                  refine mm_get S hC hR (C := RX8) (T := TX8) (N := 14) (ref := "ForkWatch") (v := .ref (ad 12)) 4 hX inRX8 rfl (by decide) (by decide +kernel) (fun _ h9 => h9) rfl dX8_plain_45 ?_
                  refine lv_iload_n hx hb dX8_plain_48 rfl (lv_at hl 1 rfl) ?_
                  refine mm_sald S hC hR hb5a (j := x) (v := .ref (ad (24 + 2 * x))) (by omega) (by omega) (by rw [hb5b _ (by omega)]; rfl) dX8_plain_49 ?_
                  refine lv_aload_n hx hb dX8_plain_50 rfl (lv_at hl 0 rfl) ?_
                  refine mm_get S hC hR (C := RX8) (T := TX8) (N := 14) (ref := "ForkWatch") (v := .ref (ad 12)) 4 hX inRX8 rfl (by decide) (by decide +kernel) (fun _ h9 => h9) rfl dX8_plain_51 ?_
                  refine lv_iload_n hx hb dX8_plain_54 rfl (lv_at hl 2 rfl) ?_
                  refine mm_sald S hC hR hb5a (j := y) (v := .ref (ad (24 + 2 * y))) (by omega) (by omega) (by rw [hb5b _ (by omega)]; rfl) dX8_plain_55 ?_
                  refine mm_calli hA hR (va_runV (As := [.ref (ad (24 + 2 * y))]) (rest := []) S (c_X5_isInLineWith l G M1 _ (ad (24 + 2 * x)) (ad (25 + 2 * x)) (ad (24 + 2 * y)) (ad (25 + 2 * y)) (rem x) (rem y) k4a k4b k5a k5b) (cwV 1 S.2.2.2.2 gX8_plain_X5_isInLineWith rfl rfl rfl (by decide +kernel) ⟨Nat.le_of_ble_eq_true rfl, Nat.le_of_ble_eq_true rfl⟩) (mm_preV hC hA hR _ k4a rfl) rfl rfl hl.1 rfl (lv_room (Nat.le_of_ble_eq_true rfl)) dX8_plain_56 ⟨Nat.le_of_ble_eq_true rfl, Nat.le_of_ble_eq_true rfl⟩) (fun r6 M7 H locs hp hR => ?_)
                  obtain ⟨q1, ff⟩ := hp
                  have hxa := hxa.fr0 hI ff
                  have hxf := hxf.fr0 ff
                  have hR0 := hR
                  have hF : mm_fr [] M7 M7 := mm_fr.rf
                  have hZ : mm_fr [] M7 M7 := mm_fr.rf
                  obtain ⟨hX, hb1, hb2, ⟨dg, hb3⟩, ⟨lmc, lf, hb4a, hb4b, hb4c⟩, ⟨rf, hb5a, hb5b⟩, hb6, ⟨shf, hb7a, hb7b⟩, hb8, hb9, hb10, hb11, ⟨dnf, hb12a, hb12b⟩, ⟨sfc, sfl, hb13⟩, hb14⟩ := id hxa
                  rcases q1 with ⟨e1, q1⟩ | ⟨e1, q1⟩ <;> subst e1
                  · skip
                    refine lv_if_eq (tgt := 86) hx hb dX8_plain_59 (by decide) (fun z => by first | exact absurd z (by decide) | exact absurd (by decide) z) (fun _ => ?_)
                    obtain ⟨k8a, k8b⟩ := hb6 x (by omega)
                    have k8a := hZ.at k8a mm_n0
                    have k8b := hZ.at k8b mm_n0
                    obtain ⟨k9a, k9b⟩ := hb6 y (by omega)
                    have k9a := hZ.at k9a mm_n0
                    have k9b := hZ.at k9b mm_n0
                    refine lv_aload_n hx hb dX8_plain_62 rfl (lv_at hl 0 rfl) ?_
                    refine mm_get S hC hR (C := RX8) (T := TX8) (N := 14) (ref := "ForkWatch") (v := .ref (ad 16)) 10 hX inRX8 rfl (by decide) (by decide +kernel) (fun _ h9 => h9) rfl dX8_plain_63 ?_
                    refine lv_aload_n hx hb dX8_plain_66 rfl (lv_at hl 0 rfl) ?_
                    refine mm_get S hC hR (C := RX8) (T := TX8) (N := 14) (ref := "ForkWatch") (v := .ref (ad 12)) 4 hX inRX8 rfl (by decide) (by decide +kernel) (fun _ h9 => h9) rfl dX8_plain_67 ?_
                    refine lv_iload_n hx hb dX8_plain_70 rfl (lv_at hl 1 rfl) ?_
                    refine mm_sald S hC hR hb5a (j := x) (v := .ref (ad (24 + 2 * x))) (by omega) (by omega) (by rw [hb5b _ (by omega)]; rfl) dX8_plain_71 ?_
                    refine lv_aload_n hx hb dX8_plain_72 rfl (lv_at hl 0 rfl) ?_
                    refine mm_get S hC hR (C := RX8) (T := TX8) (N := 14) (ref := "ForkWatch") (v := .ref (ad 12)) 4 hX inRX8 rfl (by decide) (by decide +kernel) (fun _ h9 => h9) rfl dX8_plain_73 ?_
                    refine lv_iload_n hx hb dX8_plain_76 rfl (lv_at hl 2 rfl) ?_
                    refine mm_sald S hC hR hb5a (j := y) (v := .ref (ad (24 + 2 * y))) (by omega) (by omega) (by rw [hb5b _ (by omega)]; rfl) dX8_plain_77 ?_
                    refine mm_calli hA hR (va_runV (As := [.ref (ad (24 + 2 * x)), .ref (ad (24 + 2 * y))]) (rest := []) S (c_X1_oneBeginsTheOther l G M7 _ (ad 16) (ad 17) (ad 19) (ad 20) (ad 18) no (ad (24 + 2 * x)) (ad (25 + 2 * x)) (ad (24 + 2 * y)) (ad (25 + 2 * y)) (fun i => ad (1000 + 2 * i)) (fun i => ad (1001 + 2 * i)) op (rem x) (rem y) hb10 k8a k8b k9a k9b hb11 (by omega)) (cwV 2 S.2.2.2.2 gX8_plain_X1_oneBeginsTheOther rfl rfl rfl (by decide +kernel) ⟨Nat.le_of_ble_eq_true rfl, Nat.le_of_ble_eq_true rfl⟩) (mm_preV hC hA hR _ hb10 rfl) rfl rfl hl.1 rfl (lv_room (Nat.le_of_ble_eq_true rfl)) dX8_plain_78 ⟨Nat.le_of_ble_eq_true rfl, Nat.le_of_ble_eq_true rfl⟩) (fun r10 M11 H locs hp hR => ?_)
                    obtain ⟨q2, ff⟩ := hp
                    have hxa := hxa.fr0 hI ff
                    have hxf := hxf.fr0 ff
                    have hR0 := hR
                    have hF : mm_fr [] M11 M11 := mm_fr.rf
                    have hZ : mm_fr [] M11 M11 := mm_fr.rf
                    obtain ⟨hX, hb1, hb2, ⟨dg, hb3⟩, ⟨lmc, lf, hb4a, hb4b, hb4c⟩, ⟨rf, hb5a, hb5b⟩, hb6, ⟨shf, hb7a, hb7b⟩, hb8, hb9, hb10, hb11, ⟨dnf, hb12a, hb12b⟩, ⟨sfc, sfl, hb13⟩, hb14⟩ := id hxa
                    rcases q2 with ⟨e1, q2⟩ | ⟨e1, q2⟩ <;> subst e1
                    · skip
                      refine lv_if_ne (tgt := 86) hx hb dX8_plain_81 (by decide) (fun _ => ?_) (fun z => by first | exact absurd z (by decide) | exact absurd (by decide) z)
                      refine lv_iinc (v := (nI (y + 1))) (lv' := [(2, .int (nI (y + 1))), (0, .ref (ad 0)), (1, .int (nI x))]) hx hb dX8_plain_86 hl (k := 2) rfl (by rw [show Int32.ofInt 1 = nI 1 from by decide]; exact nI_add _ _) (by decide) rfl (fun ls hl => ?_)
                      refine lv_goto (tgt := 39) hx hb dX8_plain_89 (by decide) ?_
                      exact ih2 (y + 1) _ H locs ls (by omega) (by omega) (by omega) hxa hxf hR (lv_sub hl [1, 2, 0] rfl)
                    · skip
                      refine lv_if_ne (tgt := 86) hx hb dX8_plain_81 (by decide) (fun z => by first | exact absurd z (by decide) | exact absurd (by decide) z) (fun _ => ?_)
                      refine lv_iconst (v := nI 0) hx hb dX8_plain_84 (by decide) ?_
                      exact mm_zret S hr hlocks (by decide) hR ⟨Or.inr ⟨rfl, c1, Or.inr ⟨x, y, hxy, by omega, q1, q2⟩⟩, hxa, hxf⟩ dX8_plain_85
                  · skip
                    refine lv_if_eq (tgt := 86) hx hb dX8_plain_59 (by decide) (fun _ => ?_) (fun z => by first | exact absurd z (by decide) | exact absurd (by decide) z)
                    refine lv_iinc (v := (nI (y + 1))) (lv' := [(2, .int (nI (y + 1))), (0, .ref (ad 0)), (1, .int (nI x))]) hx hb dX8_plain_86 hl (k := 2) rfl (by rw [show Int32.ofInt 1 = nI 1 from by decide]; exact nI_add _ _) (by decide) rfl (fun ls hl => ?_)
                    refine lv_goto (tgt := 39) hx hb dX8_plain_89 (by decide) ?_
                    exact ih2 (y + 1) _ H locs ls (by omega) (by omega) (by omega) hxa hxf hR (lv_sub hl [1, 2, 0] rfl)
            exact loop2 5 (x + 1) _ H locs ls (by omega) (by omega) (by omega) hxa hxf hR (lv_sub hl [1, 2, 0] rfl)
          · skip
            refine lv_if_ne (tgt := 35) hx hb dX8_plain_30 (by decide) (fun z => by first | exact absurd z (by decide) | exact absurd (by decide) z) (fun _ => ?_)
            refine lv_iconst (v := nI 0) hx hb dX8_plain_33 (by decide) ?_
            exact mm_zret S hr hlocks (by decide) hR ⟨Or.inr ⟨rfl, c1, Or.inl ⟨x, _, _, by omega, qP⟩⟩, hxa, hxf⟩ dX8_plain_34
    exact loop 5 0 _ _ _ ls (by omega) (by omega) (hxa.fr0 hI hZ) (xF.rf.fr0 hZ) hR (lv_sub hl [1, 0] rfl)
  · skip
    refine lv_iconst (v := nI 1) hx hb dX8_plain_7 (by decide) ?_
    exact mm_zret S hr hlocks (by decide) hR ⟨Or.inl rfl, hxa, hxf⟩ dX8_plain_8
