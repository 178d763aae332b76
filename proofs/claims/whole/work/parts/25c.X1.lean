theorem mm_neoa {G : mm_G} {M : mm_M} {a b n k : Nat} {f : Nat → Option Nat} {g : Nat → Int32} (ha : M a = some (oa G n f)) (hb : M b = some (ia G k g)) : a ≠ b := by
  intro e
  rw [e, hb] at ha
  have h3 := congrArg (fun x : ClassId × vp_A => x.2.2) (Sum.inl.inj (Option.some.inj ha))
  cases h3
theorem mm_nesa {G : mm_G} {M : mm_M} {a b n k : Nat} {f : Nat → Option Nat} {g : Nat → Int32} (ha : M a = some (sa G n f)) (hb : M b = some (ia G k g)) : a ≠ b := by
  intro e
  rw [e, hb] at ha
  have h3 := congrArg (fun x : ClassId × vp_A => x.2.2) (Sum.inl.inj (Option.some.inj ha))
  cases h3

set_option maxHeartbeats 4000000 in
set_option maxRecDepth 100000 in
/-- isAnsweredPlainly(client, last) -/
theorem c_X1_isAnsweredPlainly (l : Launch) (G : mm_G) (M : mm_M) (sz : Nat) (Hi Ls dn F ca la E no h b a : Nat) (O Y : Nat → Nat) (op : Nat → OpT) (f fc fl : Nat → Int32) (h0 : M Hi = some (ob 2 [.ref Ls, .ref dn, .ref F])) (h1 : M h = some (ob 6 [.ref b])) (h2 : M b = some (ia G 84 f)) (k1 : M F = some (ob 1 [.ref ca, .ref la])) (k2 : M ca = some (ia G 192 fc)) (k3 : M la = some (ia G 16 fl)) (hop : opsA G M Ls E no O Y op) (hno : no < 1000) (ha : a < 4) : mm_i l yX1_isAnsweredPlainly wsX1_isAnsweredPlainly ({ frames := 3, cells := 0, slots := 0, locals := 100 } : Room) G ([.ref Hi, .int (nI a), .ref h] : List Value) M sz (fun r M' => bq r (ansP f op fc (fl_go fl 0 16) a no) ∧ (∃ fc' fl', fiA G M' F ca la fc' fl') ∧ mm_fr [ca, la] M M') := by
  refine mm_enter (cc := cX1_isAnsweredPlainly) (maxL := 6) (ret := (some .boolean)) _ (by decide) rfl (Nat.le_of_ble_eq_true rfl) ?_
  intro p0 e0 s m0 be0 me0 c0 ls S hr hlocks hname hA hC hR hl
  have hx := S.1
  have h00 := h0
  have h10 := h1
  have h20 := h2
  have k20 := k2
  have k30 := k3
  have hb := S.2.1
  have hl : lv_has ls 6 [(0, .ref Hi), (1, .int (nI a)), (2, .ref h)] := hl
  have inRJx4a65c : ∀ w ∈ wsJx4a65c0, w ∈ wsX1_isAnsweredPlainly := by decide +kernel
  have inRX0 : ∀ w ∈ wsX00, w ∈ wsX1_isAnsweredPlainly := by decide +kernel
  have inRX1 : ∀ w ∈ wsX10, w ∈ wsX1_isAnsweredPlainly := by decide +kernel
  have inRX3 : ∀ w ∈ wsX30, w ∈ wsX1_isAnsweredPlainly := by decide +kernel
  have inRX5 : ∀ w ∈ wsX50, w ∈ wsX1_isAnsweredPlainly := by decide +kernel
  have hF : mm_fr [ca, la] M M := mm_fr.rf
  refine lv_aload_n hx hb dX1_isAnsweredPlainly_0 rfl (lv_at hl 0 rfl) ?_
  refine mm_get S hC hR (C := RX1) (T := TX1) (N := 3) (ref := "ForkWatch$History") (v := .ref F) 2 h0 inRX1 rfl (by decide) (by decide +kernel) (fun _ h9 => h9) rfl dX1_isAnsweredPlainly_1 ?_
  refine mm_callv hA hR (va_runV (As := []) (rest := []) S (c_X0_clear l G M _ F ca la fc fl k1 k2 k3) (cwV 0 S.2.2.2.2 gX1_isAnsweredPlainly_X0_clear rfl rfl rfl (by decide +kernel) ⟨Nat.le_of_ble_eq_true rfl, Nat.le_of_ble_eq_true rfl⟩) (mm_preV hC hA hR _ k1 rfl) rfl rfl hl.1 rfl (lv_room (Nat.le_of_ble_eq_true rfl)) dX1_isAnsweredPlainly_4 ⟨Nat.le_of_ble_eq_true rfl, Nat.le_of_ble_eq_true rfl⟩) (fun M2 H locs hp hR => ?_)
  obtain ⟨⟨e1, e2, e3⟩, ff⟩ := hp
  have hEL : E ≠ la ∧ E ≠ ca := by
    rcases hop.2.1 with ⟨_, z⟩ | ⟨cap, fe, z, _⟩
    · rw [z]
      have z2 := mm_Cempty hC hR
      exact ⟨fun y => (by rw [y, e3] at z2; cases z2), fun y => (by rw [y, e2] at z2; cases z2)⟩
    · exact ⟨mm_neoa z k3, mm_neoa z k2⟩
  have hOL : ∀ i, i < no → (O i ≠ la ∧ O i ≠ ca) ∧ (Y i ≠ la ∧ Y i ≠ ca) := by
    intro i hi
    obtain ⟨z1, ⟨gx, z2, _⟩, z4⟩ := hop.2.2 i hi
    exact ⟨⟨mm_neoi z1 k3, mm_neoi z1 k2⟩, mm_nelen z2 k3 (by have := z4.2.2.2; omega), mm_nelen z2 k2 (by have := z4.2.2.2; omega)⟩
  have hLL : Ls ≠ la ∧ Ls ≠ ca := by
    obtain ⟨mc, z⟩ := hop.1
    exact ⟨mm_neoi z k3, mm_neoi z k2⟩
  have hop := hop.out ff (mm_nc hLL.1 mm_n0) (mm_nc hEL.1 mm_n0) (fun i hi => ⟨mm_nc (hOL i hi).1.1 mm_n0, mm_nc (hOL i hi).2.1 mm_n0⟩)
  have h0 := ff.at h0 (mm_nc (mm_neoi h0 k3) mm_n0)
  have h1 := ff.at h1 (mm_nc (mm_neoi h1 k3) mm_n0)
  have h2 := ff.at h2 (mm_nc (mm_nelen h2 k3 (by decide)) mm_n0)
  have k1 := ff.at k1 (mm_nc (mm_neoi k1 k3) mm_n0)
  have k2 := ff.at k2 (mm_nc (mm_nelen k2 k3 (by decide)) mm_n0)
  have k3 : M2 la = some (ia G 16 (fl_go fl 0 16)) := e3
  have hF := hF.tr ff (mm_ic 1 rfl mm_i0)
  refine lv_iconst (v := nI 0) hx hb dX1_isAnsweredPlainly_7 (by decide) ?_
  refine lv_istore_n (lv' := [(3, .int (nI 0)), (0, .ref Hi), (1, .int (nI a)), (2, .ref h)]) hx hb dX1_isAnsweredPlainly_8 rfl hl (by decide) rfl (fun ls hl => ?_)
  have loop : ∀ (n x : Nat) (M1 : mm_M) (H : Heap) (locs : List Loc) (ls : Array Slot), no < x + n → x ≤ no → (∀ i, i < x → (op i).2.1 = a → cnt f (op i) ∧ hold (st_go f op fc (fl_go fl 0 16) (i + 1)) (op i)) → fiA G M1 F ca la (st_go f op fc (fl_go fl 0 16) x).1 (st_go f op fc (fl_go fl 0 16) x).2 → opsA G M1 Ls E no O Y op → mm_fr [ca, la] M M1 → mm_R G s (mm_A M sz) M1 H locs → lv_has ls 6 [(0, .ref Hi), (1, .int (nI a)), (2, .ref h), (3, .int (nI x))] → W p0 l e0 ({ frames := 3, cells := 0, slots := 0, locals := 100 } : Room) s m0 ([.ref Hi, .int (nI a), .ref h] : List Value).toArray be0 me0 c0 H locs 0 0 (MQ be0 (va_Qi (fun r M' => bq r (ansP f op fc (fl_go fl 0 16) a no) ∧ (∃ fc' fl', fiA G M' F ca la fc' fl') ∧ mm_fr [ca, la] M M') (fun M' t => mm_H G (mm_A M sz) M' t.heap) (mm_A M sz)) ([.ref Hi, .int (nI a), .ref h] : List Value).toArray s 0 0 (mm_A M sz)) (F0 m0 9 ls []) := by
    intro n
    induction n with
    | zero =>
      intro x M1 H locs ls hn hx4 hall hfi hop hF hR hl
      omega
    | succ n ih =>
      intro x M1 H locs ls hn hx4 hall hfi hop hF hR hl
      have h0 := hF.at h00 (mm_nc (mm_neoi h00 k20) (mm_nc (mm_neoi h00 k30) mm_n0))
      have h1 := hF.at h10 (mm_nc (mm_neoi h10 k20) (mm_nc (mm_neoi h10 k30) mm_n0))
      have h2 := hF.at h20 (mm_nc (mm_nelen h20 k20 (by decide)) (mm_nc (mm_nelen h20 k30 (by decide)) mm_n0))
      obtain ⟨mc, hls⟩ := hop.1
      obtain ⟨sx, esx⟩ : ∃ z, z = st_go f op fc (fl_go fl 0 16) x := ⟨_, rfl⟩
      rw [← esx] at hfi
      obtain ⟨k1, k2, k3⟩ := hfi
      refine lv_iload_n hx hb dX1_isAnsweredPlainly_9 rfl (lv_at hl 3 rfl) ?_
      refine lv_aload_n hx hb dX1_isAnsweredPlainly_10 rfl (lv_at hl 0 rfl) ?_
      refine mm_get S hC hR (C := RX1) (T := TX1) (N := 3) (ref := "ForkWatch$History") (v := .ref Ls) 0 h0 inRX1 rfl (by decide) (by decide +kernel) (fun _ h9 => h9) rfl dX1_isAnsweredPlainly_11 ?_
      refine mm_calli hA hR (va_runV (As := []) (rest := [.int (nI x)]) S (c_Jx4a65c_size_8abf5 l G M1 _ Ls E no mc hls) (cwV 0 S.2.2.2.2 gX1_isAnsweredPlainly_Jx4a65c_size_8abf5 rfl rfl rfl (by decide +kernel) ⟨Nat.le_of_ble_eq_true rfl, Nat.le_of_ble_eq_true rfl⟩) (mm_preV hC hA hR _ hls rfl) rfl rfl hl.1 rfl (lv_room (Nat.le_of_ble_eq_true rfl)) dX1_isAnsweredPlainly_14 ⟨Nat.le_of_ble_eq_true rfl, Nat.le_of_ble_eq_true rfl⟩) (fun r3 M4 H locs hp hR => ?_)
      obtain ⟨e1, ff⟩ := hp
      subst e1
      have hop := hop.fr0 ff
      have h0 := ff.at h0 mm_n0
      have h1 := ff.at h1 mm_n0
      have h2 := ff.at h2 mm_n0
      have k1 := ff.at k1 mm_n0
      have k2 := ff.at k2 mm_n0
      have k3 := ff.at k3 mm_n0
      have hls := ff.at hls mm_n0
      have hF := hF.tr ff mm_i0
      refine lv_icmp_ge (tgt := 119) hx hb dX1_isAnsweredPlainly_17 (by decide) (fun c5 => ?_) (fun c5 => ?_)
      · have c5 : no ≤ x := (nI_leI (a := no) (b := x) (by omega) (by omega)).mp c5
        have e4 : x = no := by omega
        subst e4
        refine lv_iconst (v := nI 1) hx hb dX1_isAnsweredPlainly_119 (by decide) ?_
        exact mm_zret S hr hlocks (by decide) hR ⟨Or.inl ⟨rfl, hall⟩, ⟨_, _, k1, k2, k3⟩, hF⟩ dX1_isAnsweredPlainly_120
      · have c5 : ¬ (no ≤ x) := fun z => c5 ((nI_leI (a := no) (b := x) (by omega) (by omega)).mpr z)
        obtain ⟨hoO, ⟨gx, hoY, hoG⟩, hok⟩ := hop.2.2 x (by omega)
        have hok4 : (op x).2.2.2.1 < 16 := hok.2.2.1
        have hok5 : (op x).2.2.2.2.1 ≤ 12 := hok.2.2.2
        have hok3 : (op x).2.1 < 4 := hok.2.1
        obtain ⟨cap, fe, hE, hc1, hc2, hc3, hfe⟩ := hop.2.1.resolve_left (fun z => by omega)
        have hlt : x < no := by omega
        refine lv_aload_n hx hb dX1_isAnsweredPlainly_20 rfl (lv_at hl 0 rfl) ?_
        refine mm_get S hC hR (C := RX1) (T := TX1) (N := 3) (ref := "ForkWatch$History") (v := .ref Ls) 0 h0 inRX1 rfl (by decide) (by decide +kernel) (fun _ h9 => h9) rfl dX1_isAnsweredPlainly_21 ?_
        refine lv_iload_n hx hb dX1_isAnsweredPlainly_24 rfl (lv_at hl 3 rfl) ?_
        refine mm_callq hA hR (va_runV (As := [.int (nI x)]) (rest := []) S (c_Jx4a65c_get_915e3 l G M4 _ Ls E no cap x mc fe hls hE (by omega) hc1 (by omega)) (cwV 1 S.2.2.2.2 gX1_isAnsweredPlainly_Jx4a65c_get_915e3 rfl rfl rfl (by decide +kernel) ⟨Nat.le_of_ble_eq_true rfl, Nat.le_of_ble_eq_true rfl⟩) (mm_preV hC hA hR _ hls rfl) rfl rfl hl.1 rfl (lv_room (Nat.le_of_ble_eq_true rfl)) dX1_isAnsweredPlainly_25 ⟨Nat.le_of_ble_eq_true rfl, Nat.le_of_ble_eq_true rfl⟩) (fun r6 M7 H locs hp hR => ?_)
        obtain ⟨e1, ff⟩ := hp
        rw [hfe x (by omega)] at e1
        subst e1
        have hop := hop.fr0 ff
        have h0 := ff.at h0 mm_n0
        have h1 := ff.at h1 mm_n0
        have h2 := ff.at h2 mm_n0
        have k1 := ff.at k1 mm_n0
        have k2 := ff.at k2 mm_n0
        have k3 := ff.at k3 mm_n0
        have hls := ff.at hls mm_n0
        have hoO := ff.at hoO mm_n0
        have hE := ff.at hE mm_n0
        have hoY := ff.at hoY mm_n0
        have hF := hF.tr ff mm_i0
        refine mm_cast (r := (RX3, TX3, 5)) S hC hR hoO rfl (by decide +kernel) dX1_isAnsweredPlainly_28 ?_
        refine lv_astore (lv' := [(4, .ref (O x)), (0, .ref Hi), (1, .int (nI a)), (2, .ref h), (3, .int (nI x))]) hx hb dX1_isAnsweredPlainly_31 hl (by decide) rfl (fun ls hl => ?_)
        refine lv_aload hx hb dX1_isAnsweredPlainly_33 (lv_at hl 0 rfl) ?_
        refine lv_aload_n hx hb dX1_isAnsweredPlainly_35 rfl (lv_at hl 3 rfl) ?_
        refine mm_calli hA hR (va_runV (As := [.ref h]) (rest := []) S (c_X3_isCountedBy l G M7 _ (O x) h b (op x).2.1 (op x).2.2.1 (op x).2.2.2.1 (Y x) (op x).1 f hoO h1 h2 hok3) (cwV 1 S.2.2.2.2 gX1_isAnsweredPlainly_X3_isCountedBy rfl rfl rfl (by decide +kernel) ⟨Nat.le_of_ble_eq_true rfl, Nat.le_of_ble_eq_true rfl⟩) (mm_preV hC hA hR _ hoO rfl) rfl rfl hl.1 rfl (lv_room (Nat.le_of_ble_eq_true rfl)) dX1_isAnsweredPlainly_36 ⟨Nat.le_of_ble_eq_true rfl, Nat.le_of_ble_eq_true rfl⟩) (fun r8 M9 H locs hp hR => ?_)
        obtain ⟨qA, ff⟩ := hp
        have hop := hop.fr0 ff
        have h0 := ff.at h0 mm_n0
        have h1 := ff.at h1 mm_n0
        have h2 := ff.at h2 mm_n0
        have k1 := ff.at k1 mm_n0
        have k2 := ff.at k2 mm_n0
        have k3 := ff.at k3 mm_n0
        have hls := ff.at hls mm_n0
        have hoO := ff.at hoO mm_n0
        have hE := ff.at hE mm_n0
        have hoY := ff.at hoY mm_n0
        have hF := hF.tr ff mm_i0
        refine lv_istore (lv' := [(5, .int r8), (4, .ref (O x)), (0, .ref Hi), (1, .int (nI a)), (2, .ref h), (3, .int (nI x))]) hx hb dX1_isAnsweredPlainly_39 hl (by decide) rfl (fun ls hl => ?_)
        rcases qA with ⟨eA, qA⟩ | ⟨eA, qA⟩ <;> subst eA
        · skip
          refine lv_iload hx hb dX1_isAnsweredPlainly_41 (lv_at hl 0 rfl) ?_
          refine lv_if_eq (tgt := 77) hx hb dX1_isAnsweredPlainly_43 (by decide) (fun z => by first | exact absurd z (by decide) | exact absurd (by decide) z) (fun _ => ?_)
          refine lv_aload hx hb dX1_isAnsweredPlainly_46 (lv_at hl 1 rfl) ?_
          refine mm_get S hC hR (C := RX3) (T := TX3) (N := 5) (ref := "ForkWatch$Operation") (v := .int ((op x).1)) 0 hoO inRX3 rfl (by decide) (by decide +kernel) (fun _ h9 => h9) rfl dX1_isAnsweredPlainly_48 ?_
          rcases hok.1 with hw | hw
          · skip
            refine mm_eqi hw ?_
            refine lv_if_eq (tgt := 77) hx hb dX1_isAnsweredPlainly_51 (by decide) (fun _ => ?_) (fun z => by first | exact absurd z (by decide) | exact absurd (by decide) z)
            have esx2 : sx = st_go f op fc (fl_go fl 0 16) (x + 1) := by rw [st_n (fun y => by have y2 := y.2; rw [hw] at y2; exact absurd y2 (by decide))]; exact esx
            refine lv_aload hx hb dX1_isAnsweredPlainly_77 (lv_at hl 1 rfl) ?_
            refine mm_get S hC hR (C := RX3) (T := TX3) (N := 5) (ref := "ForkWatch$Operation") (v := .int (nI ((op x).2.1))) 1 hoO inRX3 rfl (by decide) (by decide +kernel) (fun _ h9 => h9) rfl dX1_isAnsweredPlainly_79 ?_
            refine lv_iload_n hx hb dX1_isAnsweredPlainly_82 rfl (lv_at hl 3 rfl) ?_
            refine lv_icmp_ne (tgt := 113) hx hb dX1_isAnsweredPlainly_83 (by decide) (fun cq => ?_) (fun cq => ?_)
            · have cq : (op x).2.1 ≠ a := fun z => cq (congrArg nI z)
              refine lv_iinc (v := (nI (x + 1))) (lv' := [(3, .int (nI (x + 1))), (5, .int 1), (4, .ref (O x)), (0, .ref Hi), (1, .int (nI a)), (2, .ref h)]) hx hb dX1_isAnsweredPlainly_113 hl (k := 5) rfl (by rw [show Int32.ofInt 1 = nI 1 from by decide]; exact nI_add _ _) (by decide) rfl (fun ls hl => ?_)
              refine lv_goto (tgt := 9) hx hb dX1_isAnsweredPlainly_116 (by decide) ?_
              exact ih (x + 1) _ H locs ls (by omega) (by omega) (fun i hi hc => by by_cases e : i = x; (subst e; exact absurd hc cq); exact hall i (by omega) hc) (by rw [← esx2]; exact ⟨k1, k2, k3⟩) hop hF hR (lv_sub hl [3, 4, 5, 0] rfl)
            · have cq : (op x).2.1 = a := (nI_eq (a := (op x).2.1) (b := a) (by omega) (by omega)).mp cq
              refine lv_iload hx hb dX1_isAnsweredPlainly_86 (lv_at hl 0 rfl) ?_
              refine lv_if_eq (tgt := 111) hx hb dX1_isAnsweredPlainly_88 (by decide) (fun z => by first | exact absurd z (by decide) | exact absurd (by decide) z) (fun _ => ?_)
              refine lv_aload_n hx hb dX1_isAnsweredPlainly_91 rfl (lv_at hl 2 rfl) ?_
              refine mm_get S hC hR (C := RX1) (T := TX1) (N := 3) (ref := "ForkWatch$History") (v := .ref F) 2 h0 inRX1 rfl (by decide) (by decide +kernel) (fun _ h9 => h9) rfl dX1_isAnsweredPlainly_92 ?_
              refine lv_aload hx hb dX1_isAnsweredPlainly_95 (lv_at hl 1 rfl) ?_
              refine mm_get S hC hR (C := RX3) (T := TX3) (N := 5) (ref := "ForkWatch$Operation") (v := .int (nI ((op x).2.2.2.1))) 3 hoO inRX3 rfl (by decide) (by decide +kernel) (fun _ h9 => h9) rfl dX1_isAnsweredPlainly_97 ?_
              refine lv_aload hx hb dX1_isAnsweredPlainly_100 (lv_at hl 1 rfl) ?_
              refine mm_get S hC hR (C := RX3) (T := TX3) (N := 5) (ref := "ForkWatch$Operation") (v := .ref (Y x)) 4 hoO inRX3 rfl (by decide) (by decide +kernel) (fun _ h9 => h9) rfl dX1_isAnsweredPlainly_102 ?_
              refine mm_calli hA hR (va_runV (As := [.int (nI ((op x).2.2.2.1)), .ref (Y x)]) (rest := []) S (c_X0_holds l G M9 _ F ca la (Y x) (op x).2.2.2.2.1 (op x).2.2.2.1 sx.1 sx.2 gx k1 k2 k3 hoY hok4 hok5) (cwV 2 S.2.2.2.2 gX1_isAnsweredPlainly_X0_holds rfl rfl rfl (by decide +kernel) ⟨Nat.le_of_ble_eq_true rfl, Nat.le_of_ble_eq_true rfl⟩) (mm_preV hC hA hR _ k1 rfl) rfl rfl hl.1 rfl (lv_room (Nat.le_of_ble_eq_true rfl)) dX1_isAnsweredPlainly_105 ⟨Nat.le_of_ble_eq_true rfl, Nat.le_of_ble_eq_true rfl⟩) (fun r10 M11 H locs hp hR => ?_)
              obtain ⟨qH, ff⟩ := hp
              have hop := hop.fr0 ff
              have h0 := ff.at h0 mm_n0
              have h1 := ff.at h1 mm_n0
              have h2 := ff.at h2 mm_n0
              have k1 := ff.at k1 mm_n0
              have k2 := ff.at k2 mm_n0
              have k3 := ff.at k3 mm_n0
              have hls := ff.at hls mm_n0
              have hoO := ff.at hoO mm_n0
              have hE := ff.at hE mm_n0
              have hoY := ff.at hoY mm_n0
              have hF := hF.tr ff mm_i0
              rcases qH with ⟨eH, qH⟩ | ⟨eH, qH⟩ <;> subst eH
              · skip
                refine lv_if_ne (tgt := 113) hx hb dX1_isAnsweredPlainly_108 (by decide) (fun _ => ?_) (fun z => by first | exact absurd z (by decide) | exact absurd (by decide) z)
                refine lv_iinc (v := (nI (x + 1))) (lv' := [(3, .int (nI (x + 1))), (5, .int 1), (4, .ref (O x)), (0, .ref Hi), (1, .int (nI a)), (2, .ref h)]) hx hb dX1_isAnsweredPlainly_113 hl (k := 5) rfl (by rw [show Int32.ofInt 1 = nI 1 from by decide]; exact nI_add _ _) (by decide) rfl (fun ls hl => ?_)
                refine lv_goto (tgt := 9) hx hb dX1_isAnsweredPlainly_116 (by decide) ?_
                exact ih (x + 1) _ H locs ls (by omega) (by omega) (fun i hi hc => by by_cases e : i = x; (subst e; exact ⟨qA, by rw [← esx2]; exact ⟨qH.1, fun j hj => (qH.2 j hj).trans (hoG j hj)⟩⟩); exact hall i (by omega) hc) (by rw [← esx2]; exact ⟨k1, k2, k3⟩) hop hF hR (lv_sub hl [3, 4, 5, 0] rfl)
              · skip
                refine lv_if_ne (tgt := 113) hx hb dX1_isAnsweredPlainly_108 (by decide) (fun z => by first | exact absurd z (by decide) | exact absurd (by decide) z) (fun _ => ?_)
                refine lv_iconst (v := nI 0) hx hb dX1_isAnsweredPlainly_111 (by decide) ?_
                exact mm_zret S hr hlocks (by decide) hR ⟨Or.inr ⟨rfl, fun z => qH (by have y := (z x hlt cq).2; rw [← esx2] at y; exact ⟨y.1, fun j hj => (y.2 j hj).trans (hoG j hj).symm⟩)⟩, ⟨_, _, k1, k2, k3⟩, hF⟩ dX1_isAnsweredPlainly_112
          · skip
            refine mm_eqi hw ?_
            refine lv_if_eq (tgt := 77) hx hb dX1_isAnsweredPlainly_51 (by decide) (fun z => by first | exact absurd z (by decide) | exact absurd (by decide) z) (fun _ => ?_)
            refine lv_aload_n hx hb dX1_isAnsweredPlainly_54 rfl (lv_at hl 2 rfl) ?_
            refine mm_get S hC hR (C := RX1) (T := TX1) (N := 3) (ref := "ForkWatch$History") (v := .ref F) 2 h0 inRX1 rfl (by decide) (by decide +kernel) (fun _ h9 => h9) rfl dX1_isAnsweredPlainly_55 ?_
            refine lv_aload hx hb dX1_isAnsweredPlainly_58 (lv_at hl 1 rfl) ?_
            refine mm_get S hC hR (C := RX3) (T := TX3) (N := 5) (ref := "ForkWatch$Operation") (v := .int (nI ((op x).2.2.2.1))) 3 hoO inRX3 rfl (by decide) (by decide +kernel) (fun _ h9 => h9) rfl dX1_isAnsweredPlainly_60 ?_
            refine lv_aload hx hb dX1_isAnsweredPlainly_63 (lv_at hl 1 rfl) ?_
            refine mm_get S hC hR (C := RX3) (T := TX3) (N := 5) (ref := "ForkWatch$Operation") (v := .ref (Y x)) 4 hoO inRX3 rfl (by decide) (by decide +kernel) (fun _ h9 => h9) rfl dX1_isAnsweredPlainly_65 ?_
            refine lv_aload hx hb dX1_isAnsweredPlainly_68 (lv_at hl 1 rfl) ?_
            refine mm_get S hC hR (C := RX3) (T := TX3) (N := 5) (ref := "ForkWatch$Operation") (v := .ref (Y x)) 4 hoO inRX3 rfl (by decide) (by decide +kernel) (fun _ h9 => h9) rfl dX1_isAnsweredPlainly_70 ?_
            refine mm_ilen S hC hR hoY dX1_isAnsweredPlainly_73 ?_
            refine mm_callv hA hR (va_runV (As := [.int (nI ((op x).2.2.2.1)), .ref (Y x), .int (nI ((op x).2.2.2.2.1))]) (rest := []) S (c_X0_put l G M9 _ F ca la (Y x) (op x).2.2.2.2.1 (op x).2.2.2.1 (op x).2.2.2.2.1 sx.1 sx.2 gx k1 k2 k3 hoY hok4 hok5 (Nat.le_refl _) (by omega)) (cwV 3 S.2.2.2.2 gX1_isAnsweredPlainly_X0_put rfl rfl rfl (by decide +kernel) ⟨Nat.le_of_ble_eq_true rfl, Nat.le_of_ble_eq_true rfl⟩) (mm_preV hC hA hR _ k1 rfl) rfl rfl hl.1 rfl (lv_room (Nat.le_of_ble_eq_true rfl)) dX1_isAnsweredPlainly_74 ⟨Nat.le_of_ble_eq_true rfl, Nat.le_of_ble_eq_true rfl⟩) (fun M13 H locs hp hR => ?_)
            obtain ⟨⟨e1, e2, e3⟩, ff⟩ := hp
            have hop := hop.out ff (mm_nc hLL.2 (mm_nc hLL.1 mm_n0)) (mm_nc hEL.2 (mm_nc hEL.1 mm_n0)) (fun i hi => ⟨mm_nc (hOL i hi).1.2 (mm_nc (hOL i hi).1.1 mm_n0), mm_nc (hOL i hi).2.2 (mm_nc (hOL i hi).2.1 mm_n0)⟩)
            have h0 := ff.at h0 (mm_nc (mm_neoi h0 k2) (mm_nc (mm_neoi h0 k3) mm_n0))
            have h1 := ff.at h1 (mm_nc (mm_neoi h1 k2) (mm_nc (mm_neoi h1 k3) mm_n0))
            have h2 := ff.at h2 (mm_nc (mm_nelen h2 k2 (by decide)) (mm_nc (mm_nelen h2 k3 (by decide)) mm_n0))
            have hls := ff.at hls (mm_nc hLL.2 (mm_nc hLL.1 mm_n0))
            have hoO := ff.at hoO (mm_nc (hOL x hlt).1.2 (mm_nc (hOL x hlt).1.1 mm_n0))
            have hE := ff.at hE (mm_nc hEL.2 (mm_nc hEL.1 mm_n0))
            have hoY := ff.at hoY (mm_nc (hOL x hlt).2.2 (mm_nc (hOL x hlt).2.1 mm_n0))
            have k1 : M13 F = some (ob 1 [.ref ca, .ref la]) := e1
            have k2 : M13 ca = some (ia G 192 (va_cpy gx sx.1 0 ((op x).2.2.2.1 * 12) (op x).2.2.2.2.1)) := e2
            have k3 : M13 la = some (ia G 16 (upd sx.2 (op x).2.2.2.1 (nI (op x).2.2.2.2.1))) := e3
            have hF := hF.tr ff (mm_ic 0 rfl (mm_ic 1 rfl mm_i0))
            obtain ⟨sy, esy⟩ : ∃ z : (Nat → Int32) × (Nat → Int32), z = (va_cpy gx sx.1 0 ((op x).2.2.2.1 * 12) (op x).2.2.2.2.1, upd sx.2 (op x).2.2.2.1 (nI (op x).2.2.2.2.1)) := ⟨_, rfl⟩
            have k2 : M13 ca = some (ia G 192 sy.1) := by rw [esy]; exact k2
            have k3 : M13 la = some (ia G 16 sy.2) := by rw [esy]; exact k3
            have ecp : va_cpy gx sx.1 0 ((op x).2.2.2.1 * 12) (op x).2.2.2.2.1 = va_cpy (op x).2.2.2.2.2 sx.1 0 ((op x).2.2.2.1 * 12) (op x).2.2.2.2.1 := by
              funext j
              unfold va_cpy
              by_cases hj : (op x).2.2.2.1 * 12 ≤ j ∧ j < (op x).2.2.2.1 * 12 + (op x).2.2.2.2.1
              · rw [if_pos hj, if_pos hj]
                exact hoG _ (by omega)
              · rw [if_neg hj, if_neg hj]
            have esx2 : sy = st_go f op fc (fl_go fl 0 16) (x + 1) := by rw [st_y ⟨qA, hw⟩, ← esx, ← ecp]; exact esy
            refine lv_aload hx hb dX1_isAnsweredPlainly_77 (lv_at hl 1 rfl) ?_
            refine mm_get S hC hR (C := RX3) (T := TX3) (N := 5) (ref := "ForkWatch$Operation") (v := .int (nI ((op x).2.1))) 1 hoO inRX3 rfl (by decide) (by decide +kernel) (fun _ h9 => h9) rfl dX1_isAnsweredPlainly_79 ?_
            refine lv_iload_n hx hb dX1_isAnsweredPlainly_82 rfl (lv_at hl 3 rfl) ?_
            refine lv_icmp_ne (tgt := 113) hx hb dX1_isAnsweredPlainly_83 (by decide) (fun cq => ?_) (fun cq => ?_)
            · have cq : (op x).2.1 ≠ a := fun z => cq (congrArg nI z)
              refine lv_iinc (v := (nI (x + 1))) (lv' := [(3, .int (nI (x + 1))), (5, .int 1), (4, .ref (O x)), (0, .ref Hi), (1, .int (nI a)), (2, .ref h)]) hx hb dX1_isAnsweredPlainly_113 hl (k := 5) rfl (by rw [show Int32.ofInt 1 = nI 1 from by decide]; exact nI_add _ _) (by decide) rfl (fun ls hl => ?_)
              refine lv_goto (tgt := 9) hx hb dX1_isAnsweredPlainly_116 (by decide) ?_
              exact ih (x + 1) _ H locs ls (by omega) (by omega) (fun i hi hc => by by_cases e : i = x; (subst e; exact absurd hc cq); exact hall i (by omega) hc) (by rw [← esx2]; exact ⟨k1, k2, k3⟩) hop hF hR (lv_sub hl [3, 4, 5, 0] rfl)
            · have cq : (op x).2.1 = a := (nI_eq (a := (op x).2.1) (b := a) (by omega) (by omega)).mp cq
              refine lv_iload hx hb dX1_isAnsweredPlainly_86 (lv_at hl 0 rfl) ?_
              refine lv_if_eq (tgt := 111) hx hb dX1_isAnsweredPlainly_88 (by decide) (fun z => by first | exact absurd z (by decide) | exact absurd (by decide) z) (fun _ => ?_)
              refine lv_aload_n hx hb dX1_isAnsweredPlainly_91 rfl (lv_at hl 2 rfl) ?_
              refine mm_get S hC hR (C := RX1) (T := TX1) (N := 3) (ref := "ForkWatch$History") (v := .ref F) 2 h0 inRX1 rfl (by decide) (by decide +kernel) (fun _ h9 => h9) rfl dX1_isAnsweredPlainly_92 ?_
              refine lv_aload hx hb dX1_isAnsweredPlainly_95 (lv_at hl 1 rfl) ?_
              refine mm_get S hC hR (C := RX3) (T := TX3) (N := 5) (ref := "ForkWatch$Operation") (v := .int (nI ((op x).2.2.2.1))) 3 hoO inRX3 rfl (by decide) (by decide +kernel) (fun _ h9 => h9) rfl dX1_isAnsweredPlainly_97 ?_
              refine lv_aload hx hb dX1_isAnsweredPlainly_100 (lv_at hl 1 rfl) ?_
              refine mm_get S hC hR (C := RX3) (T := TX3) (N := 5) (ref := "ForkWatch$Operation") (v := .ref (Y x)) 4 hoO inRX3 rfl (by decide) (by decide +kernel) (fun _ h9 => h9) rfl dX1_isAnsweredPlainly_102 ?_
              refine mm_calli hA hR (va_runV (As := [.int (nI ((op x).2.2.2.1)), .ref (Y x)]) (rest := []) S (c_X0_holds l G M13 _ F ca la (Y x) (op x).2.2.2.2.1 (op x).2.2.2.1 sy.1 sy.2 gx k1 k2 k3 hoY hok4 hok5) (cwV 2 S.2.2.2.2 gX1_isAnsweredPlainly_X0_holds rfl rfl rfl (by decide +kernel) ⟨Nat.le_of_ble_eq_true rfl, Nat.le_of_ble_eq_true rfl⟩) (mm_preV hC hA hR _ k1 rfl) rfl rfl hl.1 rfl (lv_room (Nat.le_of_ble_eq_true rfl)) dX1_isAnsweredPlainly_105 ⟨Nat.le_of_ble_eq_true rfl, Nat.le_of_ble_eq_true rfl⟩) (fun r14 M15 H locs hp hR => ?_)
              obtain ⟨qH, ff⟩ := hp
              have hop := hop.fr0 ff
              have h0 := ff.at h0 mm_n0
              have h1 := ff.at h1 mm_n0
              have h2 := ff.at h2 mm_n0
              have k1 := ff.at k1 mm_n0
              have k2 := ff.at k2 mm_n0
              have k3 := ff.at k3 mm_n0
              have hls := ff.at hls mm_n0
              have hoO := ff.at hoO mm_n0
              have hE := ff.at hE mm_n0
              have hoY := ff.at hoY mm_n0
              have hF := hF.tr ff mm_i0
              rcases qH with ⟨eH, qH⟩ | ⟨eH, qH⟩ <;> subst eH
              · skip
                refine lv_if_ne (tgt := 113) hx hb dX1_isAnsweredPlainly_108 (by decide) (fun _ => ?_) (fun z => by first | exact absurd z (by decide) | exact absurd (by decide) z)
                refine lv_iinc (v := (nI (x + 1))) (lv' := [(3, .int (nI (x + 1))), (5, .int 1), (4, .ref (O x)), (0, .ref Hi), (1, .int (nI a)), (2, .ref h)]) hx hb dX1_isAnsweredPlainly_113 hl (k := 5) rfl (by rw [show Int32.ofInt 1 = nI 1 from by decide]; exact nI_add _ _) (by decide) rfl (fun ls hl => ?_)
                refine lv_goto (tgt := 9) hx hb dX1_isAnsweredPlainly_116 (by decide) ?_
                exact ih (x + 1) _ H locs ls (by omega) (by omega) (fun i hi hc => by by_cases e : i = x; (subst e; exact ⟨qA, by rw [← esx2]; exact ⟨qH.1, fun j hj => (qH.2 j hj).trans (hoG j hj)⟩⟩); exact hall i (by omega) hc) (by rw [← esx2]; exact ⟨k1, k2, k3⟩) hop hF hR (lv_sub hl [3, 4, 5, 0] rfl)
              · skip
                refine lv_if_ne (tgt := 113) hx hb dX1_isAnsweredPlainly_108 (by decide) (fun z => by first | exact absurd z (by decide) | exact absurd (by decide) z) (fun _ => ?_)
                refine lv_iconst (v := nI 0) hx hb dX1_isAnsweredPlainly_111 (by decide) ?_
                exact mm_zret S hr hlocks (by decide) hR ⟨Or.inr ⟨rfl, fun z => qH (by have y := (z x hlt cq).2; rw [← esx2] at y; exact ⟨y.1, fun j hj => (y.2 j hj).trans (hoG j hj).symm⟩)⟩, ⟨_, _, k1, k2, k3⟩, hF⟩ dX1_isAnsweredPlainly_112
        · skip
          refine lv_iload hx hb dX1_isAnsweredPlainly_41 (lv_at hl 0 rfl) ?_
          refine lv_if_eq (tgt := 77) hx hb dX1_isAnsweredPlainly_43 (by decide) (fun _ => ?_) (fun z => by first | exact absurd z (by decide) | exact absurd (by decide) z)
          have esx2 : sx = st_go f op fc (fl_go fl 0 16) (x + 1) := by rw [st_n (fun y => qA y.1)]; exact esx
          refine lv_aload hx hb dX1_isAnsweredPlainly_77 (lv_at hl 1 rfl) ?_
          refine mm_get S hC hR (C := RX3) (T := TX3) (N := 5) (ref := "ForkWatch$Operation") (v := .int (nI ((op x).2.1))) 1 hoO inRX3 rfl (by decide) (by decide +kernel) (fun _ h9 => h9) rfl dX1_isAnsweredPlainly_79 ?_
          refine lv_iload_n hx hb dX1_isAnsweredPlainly_82 rfl (lv_at hl 3 rfl) ?_
          refine lv_icmp_ne (tgt := 113) hx hb dX1_isAnsweredPlainly_83 (by decide) (fun cq => ?_) (fun cq => ?_)
          · have cq : (op x).2.1 ≠ a := fun z => cq (congrArg nI z)
            refine lv_iinc (v := (nI (x + 1))) (lv' := [(3, .int (nI (x + 1))), (5, .int 0), (4, .ref (O x)), (0, .ref Hi), (1, .int (nI a)), (2, .ref h)]) hx hb dX1_isAnsweredPlainly_113 hl (k := 5) rfl (by rw [show Int32.ofInt 1 = nI 1 from by decide]; exact nI_add _ _) (by decide) rfl (fun ls hl => ?_)
            refine lv_goto (tgt := 9) hx hb dX1_isAnsweredPlainly_116 (by decide) ?_
            exact ih (x + 1) _ H locs ls (by omega) (by omega) (fun i hi hc => by by_cases e : i = x; (subst e; exact absurd hc cq); exact hall i (by omega) hc) (by rw [← esx2]; exact ⟨k1, k2, k3⟩) hop hF hR (lv_sub hl [3, 4, 5, 0] rfl)
          · have cq : (op x).2.1 = a := (nI_eq (a := (op x).2.1) (b := a) (by omega) (by omega)).mp cq
            refine lv_iload hx hb dX1_isAnsweredPlainly_86 (lv_at hl 0 rfl) ?_
            refine lv_if_eq (tgt := 111) hx hb dX1_isAnsweredPlainly_88 (by decide) (fun _ => ?_) (fun z => by first | exact absurd z (by decide) | exact absurd (by decide) z)
            refine lv_iconst (v := nI 0) hx hb dX1_isAnsweredPlainly_111 (by decide) ?_
            exact mm_zret S hr hlocks (by decide) hR ⟨Or.inr ⟨rfl, fun z => qA (z x hlt cq).1⟩, ⟨_, _, k1, k2, k3⟩, hF⟩ dX1_isAnsweredPlainly_112
  exact loop (no + 1) 0 _ _ _ ls (by omega) (by omega) (fun i hi => by omega) ⟨k1, k2, k3⟩ hop hF hR (lv_sub hl [1, 2, 3, 0] rfl)
