/-- two addresses that differ, said so that arithmetic doesn't split over them -/
def dif (a b : Nat) : Prop := a ≠ b
theorem dif.s {a b : Nat} (h : dif a b) : b ≠ a := Ne.symm h
def opx (op : Nat → OpT) (no : Nat) (o : OpT) : Nat → OpT := fun i => if i = no then o else op i
theorem opx_s {op : Nat → OpT} {no : Nat} {o : OpT} : opx op no o no = o := if_pos rfl
theorem opx_n {op : Nat → OpT} {no i : Nat} {o : OpT} (h : i < no) : opx op no o i = op i := if_neg (by omega)
theorem mm_n3 {a x1 x2 x3 : Nat} (h1 : a ≠ x1) (h2 : a ≠ x2) (h3 : a ≠ x3) : a ∉ [x1, x2, x3] := mm_nc h1 (mm_nc h2 (mm_nc h3 mm_n0))

set_option maxHeartbeats 4000000 in
set_option maxRecDepth 100000 in
/-- note(..) -/
theorem c_X1_note (l : Launch) (G : mm_G) (M : mm_M) (sz : Nat) (Hi Ls dn F E no y k cl fi len dc : Nat) (x : Int32) (O Y : Nat → Nat) (op : Nat → OpT) (d r : Nat → Int32) (h0 : M Hi = some (ob 2 [.ref Ls, .ref dn, .ref F])) (h1 : M dn = some (ia G 4 d)) (h2 : M y = some (ia G k r)) (hop : opsA G M Ls E no O Y op) (hno : no < 512) (hd : d cl = nI dc) (hcl : cl < 4) (hfi : fi < 16) (hlen : len ≤ 12) (hk : len ≤ k) (hk2 : k ≤ 100) (hx0 : x = 0 ∨ x = 1) (hYd : ∀ i, i < no → Y i ≠ dn) (hyd : dif y dn) : mm_v l yX1_note wsX1_note ({ frames := 7, cells := 3, slots := 1105, locals := 220 } : Room) G ([.ref Hi, .int x, .int (nI cl), .int (nI fi), .ref y, .int (nI len)] : List Value) M sz (fun M' => ∃ (E' q O9 : Nat), M q = none ∧ M O9 = none ∧ (E' = E ∨ M E' = none) ∧ opsA G M' Ls E' (no + 1) (va_up O no O9) (va_up Y no q) (opx op no (x, cl, dc + 1, fi, len, r)) ∧ M' dn = some (ia G 4 (upd d cl (nI (dc + 1)))) ∧ mm_fr [Ls, E, dn] M M') := by
  refine mm_enter (cc := cX1_note) (maxL := 6) (ret := none) _ (by decide) rfl (Nat.le_of_ble_eq_true rfl) ?_
  intro p0 e0 s m0 be0 me0 c0 ls S hr hlocks hname hA hC hR hl
  have hx := S.1
  have hb := S.2.1
  have hl : lv_has ls 6 [(0, .ref Hi), (1, .int x), (2, .int (nI cl)), (3, .int (nI fi)), (4, .ref y), (5, .int (nI len))] := hl
  have inRJx4a65c : ∀ w ∈ wsJx4a65c0, w ∈ wsX1_note := by decide +kernel
  have inRX1 : ∀ w ∈ wsX10, w ∈ wsX1_note := by decide +kernel
  have inRX3 : ∀ w ∈ wsX30, w ∈ wsX1_note := by decide +kernel
  have hF : mm_fr [dn] M M := mm_fr.rf
  have hz : narrow .boolean (.int x) = .int x ∧ fits .boolean (.int x) = true := by rcases hx0 with e | e <;> subst e <;> exact ⟨rfl, rfl⟩
  obtain ⟨mc, hls⟩ := hop.1
  have hEn : M E = none ∨ ∃ cap f, M E = some (oa G cap f) := by
    rcases hop.2.1 with ⟨_, z⟩ | ⟨cap, f, z, _⟩
    · exact Or.inl (by rw [z]; exact mm_Cempty hC hR)
    · exact Or.inr ⟨cap, f, z⟩
  have hEd : dif E dn := by
    rcases hEn with z | ⟨cap, f, z⟩
    · exact fun y => by rw [y, h1] at z; cases z
    · exact mm_neoa z h1
  refine lv_aload_n hx hb dX1_note_0 rfl (lv_at hl 0 rfl) ?_
  refine mm_get S hC hR (C := RX1) (T := TX1) (N := 3) (ref := "ForkWatch$History") (v := .ref Ls) 0 h0 inRX1 rfl (by decide) (by decide +kernel) (fun _ h9 => h9) rfl dX1_note_1 ?_
  refine mm_calli hA hR (va_runV (As := []) (rest := []) S (c_Jx4a65c_size_8abf5 l G M _ Ls E no mc hls) (cwV 0 S.2.2.2.2 gX1_note_Jx4a65c_size_8abf5 rfl rfl rfl (by decide +kernel) ⟨Nat.le_of_ble_eq_true rfl, Nat.le_of_ble_eq_true rfl⟩) (mm_preV hC hA hR _ hls rfl) rfl rfl hl.1 rfl (lv_room (Nat.le_of_ble_eq_true rfl)) dX1_note_4 ⟨Nat.le_of_ble_eq_true rfl, Nat.le_of_ble_eq_true rfl⟩) (fun r1 M2 H locs hp hR => ?_)
  obtain ⟨e1, ff⟩ := hp
  subst e1
  have hop := hop.fr0 ff
  have h0 := ff.at h0 mm_n0
  have h1 := ff.at h1 mm_n0
  have h2 := ff.at h2 mm_n0
  have hls := ff.at hls mm_n0
  have hF := hF.tr ff mm_i0
  refine lv_sipush (v := nI 512) hx hb dX1_note_7 (by decide) ?_
  refine lv_icmp_lt (tgt := 14) hx hb dX1_note_10 (by decide) (fun c3 => ?_) (fun c3 => ?_)
  · have c3 : no < 512 := (nI_ltI (a := no) (b := 512) (by omega) (by omega)).mp c3
    refine lv_aload_n hx hb dX1_note_14 rfl (lv_at hl 0 rfl) ?_
    refine mm_get S hC hR (C := RX1) (T := TX1) (N := 3) (ref := "ForkWatch$History") (v := .ref dn) 1 h0 inRX1 rfl (by decide) (by decide +kernel) (fun _ h9 => h9) rfl dX1_note_15 ?_
    refine lv_iload_n hx hb dX1_note_18 rfl (lv_at hl 2 rfl) ?_
    refine lv_dup2_11 hx hb dX1_note_19 rfl rfl ?_
    refine mm_iald S hC hR h1 (j := cl) (by omega) (by omega) dX1_note_20 ?_
    refine mm_eqi hd ?_
    refine lv_iconst (v := nI 1) hx hb dX1_note_21 (by decide) ?_
    refine lv_iadd hx hb dX1_note_22 ?_
    refine mm_eqi (nI_add _ _) ?_
    have hLsd : dif Ls dn := mm_neoi hls h1
    have hOd : ∀ i, i < no → O i ≠ dn := fun i hi => mm_neoi (hop.2.2 i hi).1 h1
    refine mm_iast S hC hR h1 (j := cl) (by omega) (by omega) dX1_note_23 (fun H locs M4 g6 f5 hR => ?_)
    have h0 := f5.at h0 (mm_nc (mm_neoi h0 h1) mm_n0)
    have h2 := f5.at h2 (mm_nc hyd mm_n0)
    have hls := f5.at hls (mm_nc hLsd mm_n0)
    have h1 : M4 dn = some (ia G 4 (upd d cl (nI (dc + 1)))) := g6
    have hF := hF.tr f5 (mm_ic 0 rfl mm_i0)
    have hop := hop.out f5 (mm_nc hLsd mm_n0) (mm_nc hEd mm_n0) (fun i hi => ⟨mm_nc (hOd i hi) mm_n0, mm_nc (hYd i hi) mm_n0⟩)
    refine lv_aload_n hx hb dX1_note_24 rfl (lv_at hl 0 rfl) ?_
    refine mm_get S hC hR (C := RX1) (T := TX1) (N := 3) (ref := "ForkWatch$History") (v := .ref Ls) 0 h0 inRX1 rfl (by decide) (by decide +kernel) (fun _ h9 => h9) rfl dX1_note_25 ?_
    have hop0 := hop
    refine mm_new (fs := [.int (nI 0), .int (nI 0), .int (nI 0), .int (nI 0), .null]) S hC hA hR (C := RX3) (T := TX3) (N := 5) (ci := 4) inRX3 rfl tyX3_ok (by decide +kernel) (by decide +kernel) (by decide +kernel) (fun j hj => by rcases (show j = 0 ∨ j = 1 ∨ j = 2 ∨ j = 3 ∨ j = 4 by omega) with rfl | rfl | rfl | rfl | rfl <;> rfl) (Nat.le_of_ble_eq_true rfl) (Nat.le_of_ble_eq_true rfl) dX1_note_28 (fun O9 H M7 z9 hO f8 hR => ?_)
    have n_Hi_O9 : dif Hi O9 := mm_nenew h0 z9
    have n_dn_O9 : dif dn O9 := mm_nenew h1 z9
    have n_y_O9 : dif y O9 := mm_nenew h2 z9
    have n_Ls_O9 : dif Ls O9 := mm_nenew hls z9
    have nn_O9 : M O9 = none := hF.none z9 (mm_oc h1 mm_o0)
    have h0 := f8.at h0 mm_n0
    have h1 := f8.at h1 mm_n0
    have h2 := f8.at h2 mm_n0
    have hls := f8.at hls mm_n0
    have hO : M7 O9 = some (ob 4 [.int (nI 0), .int (nI 0), .int (nI 0), .int (nI 0), .null]) := hO
    have hF := hF.tr f8 mm_i0
    have hop := hop.fr0 f8
    refine lv_dup hx hb dX1_note_31 rfl ?_
    refine lv_iload_n hx hb dX1_note_32 rfl (lv_at hl 1 rfl) ?_
    refine lv_iload_n hx hb dX1_note_33 rfl (lv_at hl 2 rfl) ?_
    refine lv_aload_n hx hb dX1_note_34 rfl (lv_at hl 0 rfl) ?_
    refine mm_get S hC hR (C := RX1) (T := TX1) (N := 3) (ref := "ForkWatch$History") (v := .ref dn) 1 h0 inRX1 rfl (by decide) (by decide +kernel) (fun _ h9 => h9) rfl dX1_note_35 ?_
    refine lv_iload_n hx hb dX1_note_38 rfl (lv_at hl 2 rfl) ?_
    refine mm_iald S hC hR h1 (j := cl) (by omega) (by omega) dX1_note_39 ?_
    refine mm_eqi pk_us ?_
    refine lv_iload_n hx hb dX1_note_40 rfl (lv_at hl 3 rfl) ?_
    refine lv_aload hx hb dX1_note_41 (lv_at hl 4 rfl) ?_
    refine lv_iload hx hb dX1_note_43 (lv_at hl 5 rfl) ?_
    refine mm_callq hA hR (va_runS (As := [.ref y, .int (nI len)]) (rest := [.int (nI fi), .int (nI (dc + 1)), .int (nI cl), .int x, .ref O9, .ref O9, .ref Ls]) S (c_J7_copyOf_59c91 l G M7 _ y k len r h2 hk hk2) (va_cwS 2 S.2.2.2.2 gX1_note_J7_copyOf_59c91 rfl rfl rfl (by decide +kernel) ⟨Nat.le_of_ble_eq_true rfl, Nat.le_of_ble_eq_true rfl⟩) (mm_preS hC hA hR _) rfl rfl hl.1 rfl (lv_room (Nat.le_of_ble_eq_true rfl)) dX1_note_45 ⟨Nat.le_of_ble_eq_true rfl, Nat.le_of_ble_eq_true rfl⟩) (fun r10 M11 H locs hp hR => ?_)
    obtain ⟨q, gq, e1, yq, hq, hgq, ff⟩ := hp
    subst e1
    have hop := hop.fr0 ff
    have n_Hi_q : dif Hi q := mm_nenew h0 yq
    have n_dn_q : dif dn q := mm_nenew h1 yq
    have n_y_q : dif y q := mm_nenew h2 yq
    have n_Ls_q : dif Ls q := mm_nenew hls yq
    have n_O9_q : dif O9 q := mm_nenew hO yq
    have nn_q : M q = none := hF.none yq (mm_oc h1 mm_o0)
    have h0 := ff.at h0 mm_n0
    have h1 := ff.at h1 mm_n0
    have h2 := ff.at h2 mm_n0
    have hls := ff.at hls mm_n0
    have hO := ff.at hO mm_n0
    have hq : M11 q = some (ia G len gq) := hq
    have hF := hF.tr ff mm_i0
    have hOne : ∀ i, i < no → O i ≠ O9 ∧ Y i ≠ O9 := fun i hi => by
      obtain ⟨o1, ⟨g2, o2, _⟩, _⟩ := hop0.2.2 i hi
      exact ⟨mm_nenew o1 z9, mm_nenew o2 z9⟩
    have hLsO : dif Ls O9 := mm_neoo hls hO (by decide)
    have hEO : dif E O9 := by
      rcases hop.2.1 with ⟨_, z⟩ | ⟨cap, f, z, _⟩
      · intro y
        have z2 := mm_Cempty hC hR
        rw [← z, y, hO] at z2
        cases z2
      · exact Ne.symm (mm_neoi hO z)
    refine mm_callv hA hR (va_runI (As := [.int x, .int (nI cl), .int (nI (dc + 1)), .int (nI fi), .ref q]) (rest := [.ref O9, .ref Ls]) S (c_X3_init l G M11 _ O9 x cl (dc + 1) fi q hO hz) (cwI 5 S.2.2.2.2 gX1_note_X3_init rfl rfl rfl (S.2.2.2.2 (.initialized RX3) (by decide +kernel)) (S.2.2.2.2 (.methodLink RX1 41 yX3_init) (by decide +kernel)) (S.2.2.2.2 (.instanceMethod yX3_init) (by decide +kernel)) rfl (by decide +kernel) ⟨Nat.le_of_ble_eq_true rfl, Nat.le_of_ble_eq_true rfl⟩) (mm_preS hC hA hR _) rfl rfl hl.1 rfl (lv_room (Nat.le_of_ble_eq_true rfl)) dX1_note_48 ⟨Nat.le_of_ble_eq_true rfl, Nat.le_of_ble_eq_true rfl⟩) (fun M13 H locs hp hR => ?_)
    obtain ⟨e1, ff⟩ := hp
    have hop := hop.out ff (mm_nc hLsO mm_n0) (mm_nc hEO mm_n0) (fun i hi => ⟨mm_nc (hOne i hi).1 mm_n0, mm_nc (hOne i hi).2 mm_n0⟩)
    have h0 := ff.at h0 (mm_nc n_Hi_O9 mm_n0)
    have h1 := ff.at h1 (mm_nc n_dn_O9 mm_n0)
    have h2 := ff.at h2 (mm_nc n_y_O9 mm_n0)
    have hls := ff.at hls (mm_nc hLsO mm_n0)
    have hq := ff.at hq (mm_nc (Ne.symm n_O9_q) mm_n0)
    have hO : M13 O9 = some (ob 4 [.int x, .int (nI cl), .int (nI (dc + 1)), .int (nI fi), .ref q]) := e1
    have hF := hF.tr ff (mm_in nn_O9 mm_i0)
    have hOO : opAt G M13 O9 q (x, cl, dc + 1, fi, len, r) := ⟨hO, ⟨gq, hq, hgq⟩, hx0, hcl, hfi, hlen⟩
    have hFL : mm_fr [Ls, E, dn] M M13 := hF.up (fun z h => by rw [List.mem_singleton.mp h]; exact List.mem_cons_of_mem _ (List.mem_cons_of_mem _ List.mem_cons_self))
    have hqL : dif q Ls := dif.s n_Ls_q
    have hqE : dif q E := by
      rcases hop.2.1 with ⟨_, z⟩ | ⟨cap, f, z, _⟩
      · intro y
        have z2 := mm_Cempty hC hR
        rw [← z, ← y, hq] at z2
        cases z2
      · exact Ne.symm (mm_neoa z hq)
    have fin : ∀ (M9 : mm_M) (E9 : Nat) (L9 : List Nat), mm_fr L9 M13 M9 → (∀ z, z ∈ L9 → z = Ls ∨ z = E) → (∃ mc, M9 Ls = some (ob 0 [.int mc, .ref E9, .int (nI (no + 1))])) → (∃ (cap : Nat) (f : Nat → Option Nat), M9 E9 = some (oa G cap f) ∧ no + 1 ≤ cap ∧ 1 ≤ cap ∧ cap ≤ 1000 ∧ ∀ i, i < no + 1 → f i = some (va_up O no O9 i)) → opsA G M9 Ls E9 (no + 1) (va_up O no O9) (va_up Y no q) (opx op no (x, cl, dc + 1, fi, len, r)) ∧ M9 dn = some (ia G 4 (upd d cl (nI (dc + 1)))) ∧ mm_fr [Ls, E, dn] M M9 := by
      intro M9 E9 L9 f9 hL9 hl9 he9
      have nin : ∀ a, a ≠ Ls → a ≠ E → a ∉ L9 := fun a n1 n2 z => (hL9 a z).elim n1 n2
      refine ⟨⟨hl9, Or.inr he9, fun i hi => ?_⟩, f9.at h1 (nin dn (dif.s hLsd) (dif.s hEd)), hFL.tr f9 (fun z hz => Or.inl ((hL9 z hz).elim (fun e => by rw [e]; exact List.mem_cons_self) (fun e => by rw [e]; exact List.mem_cons_of_mem _ List.mem_cons_self)))⟩
      by_cases e : i = no
      · subst e
        rw [va_up_self, va_up_self, opx_s]
        exact hOO.out f9 (nin O9 (dif.s hLsO) (dif.s hEO)) (nin q hqL hqE)
      · rw [va_up_ne _ _ e, va_up_ne _ _ e, opx_n (by omega)]
        have ho := hop.2.2 i (by omega)
        obtain ⟨o1, ⟨g2, o2, _⟩, _⟩ := id ho
        refine ho.out f9 (nin _ (mm_neoo o1 hls (by decide)) ?_) (nin _ (Ne.symm (mm_neoi hls o2)) ?_)
        · rcases hop.2.1 with ⟨z0, _⟩ | ⟨cap, f, z, _⟩
          · omega
          · exact mm_neoi o1 z
        · rcases hop.2.1 with ⟨z0, _⟩ | ⟨cap, f, z, _⟩
          · omega
          · exact Ne.symm (mm_neoa z o2)
    rcases hop.2.1 with ⟨z0, zE⟩ | ⟨cap, fe, hE, hc1, hc2, hc3, hfe⟩
    · skip
      subst z0
      subst zE
      refine mm_calli hA hR (va_runV (As := [.ref O9]) (rest := []) S (c_add_4_first l G M13 _ Ls O9 mc _ hls hO) (cwV 1 S.2.2.2.2 gX1_note_Jx4a65c_add_9ea2d rfl rfl rfl (by decide +kernel) ⟨Nat.le_of_ble_eq_true rfl, Nat.le_of_ble_eq_true rfl⟩) (mm_preV hC hA hR _ hls rfl) rfl rfl hl.1 rfl (lv_room (Nat.le_of_ble_eq_true rfl)) dX1_note_51 ⟨Nat.le_of_ble_eq_true rfl, Nat.le_of_ble_eq_true rfl⟩) (fun r14 M15 H locs hp hR => ?_)
      obtain ⟨q2, yq2, e2, e3, ff⟩ := hp
      refine lv_pop hx hb dX1_note_54 rfl ?_
      have nn_q2 : M q2 = none := hF.none yq2 (mm_oc h1 mm_o0)
      have fi9 := fin _ q2 [Ls] ff (fun z hz => Or.inl (List.mem_singleton.mp hz)) e3 ⟨10, _, e2, by omega, by omega, by omega, fun i hi => by have e : i = 0 := (by omega); subst e; rw [va_up_self, va_up_self]⟩
      refine W.widen (k := 3) (n := 1105) (by show 0 + 1 + 1 + 1 ≤ 3; omega) (by show 0 + 5 + 100 + 1000 ≤ 1105; omega) ?_
      exact mm_vret S hr hlocks hR ⟨q2, q, O9, nn_q, nn_O9, Or.inr nn_q2, fi9.1, fi9.2.1, fi9.2.2⟩ dX1_note_55
    · skip
      rcases Nat.lt_or_ge no cap with hlt | hge
      · skip
        refine mm_calli hA hR (va_runV (As := [.ref O9]) (rest := []) S (c_add_4_lo l G M13 _ Ls E no cap O9 mc fe _ hls hE hO hlt hc3) (cwV 1 S.2.2.2.2 gX1_note_Jx4a65c_add_9ea2d rfl rfl rfl (by decide +kernel) ⟨Nat.le_of_ble_eq_true rfl, Nat.le_of_ble_eq_true rfl⟩) (mm_preV hC hA hR _ hls rfl) rfl rfl hl.1 rfl (lv_room (Nat.le_of_ble_eq_true rfl)) dX1_note_51 ⟨Nat.le_of_ble_eq_true rfl, Nat.le_of_ble_eq_true rfl⟩) (fun r16 M17 H locs hp hR => ?_)
        obtain ⟨e2, e3, ff⟩ := hp
        refine lv_pop hx hb dX1_note_54 rfl ?_
        have fi9 := fin _ E [Ls, E] ff (fun z hz => (List.mem_cons.mp hz).elim Or.inl (fun h => Or.inr (List.mem_singleton.mp h))) e3 ⟨cap, _, e2, by omega, by omega, by omega, fun i hi => by by_cases e : i = no; (subst e; rw [va_up_self, va_up_self]); (rw [va_up_ne _ _ e, va_up_ne _ _ e]; exact hfe i (by omega))⟩
        refine W.widen (k := 3) (n := 1105) (by show 0 + 1 + 1 + 1 ≤ 3; omega) (by show 0 + 5 + 100 + 1000 ≤ 1105; omega) ?_
        exact mm_vret S hr hlocks hR ⟨E, q, O9, nn_q, nn_O9, Or.inl rfl, fi9.1, fi9.2.1, fi9.2.2⟩ dX1_note_55
      · skip
        have ecap : cap = no := by omega
        subst ecap
        refine mm_calli hA hR (va_runV (As := [.ref O9]) (rest := []) S (c_add_4_full l G M13 _ Ls E cap O9 mc fe _ hls hE hO hc2 (by omega) (fun i hi y hy => by rw [hfe i hi] at hy; cases hy; exact ⟨_, (hop.2.2 i hi).1⟩)) (cwV 1 S.2.2.2.2 gX1_note_Jx4a65c_add_9ea2d rfl rfl rfl (by decide +kernel) ⟨Nat.le_of_ble_eq_true rfl, Nat.le_of_ble_eq_true rfl⟩) (mm_preV hC hA hR _ hls rfl) rfl rfl hl.1 rfl (lv_room (Nat.le_of_ble_eq_true rfl)) dX1_note_51 ⟨Nat.le_of_ble_eq_true rfl, Nat.le_of_ble_eq_true rfl⟩) (fun r18 M19 H locs hp hR => ?_)
        obtain ⟨q2, yq2, e2, e3, ff⟩ := hp
        refine lv_pop hx hb dX1_note_54 rfl ?_
        have nn_q2 : M q2 = none := hF.none yq2 (mm_oc h1 mm_o0)
        have fi9 := fin _ q2 [Ls] ff (fun z hz => Or.inl (List.mem_singleton.mp hz)) e3 ⟨_, _, e2, by omega, by omega, by omega, fun i hi => by by_cases e : i = cap; (subst e; rw [va_up_self, va_up_self]); (rw [va_up_ne _ _ e, va_up_ne _ _ e]; unfold va_cpy; rw [if_pos (by omega), show 0 + (i - 0) = i by omega]; exact hfe i (by omega))⟩
        refine W.widen (k := 3) (n := 1105) (by show 0 + 1 + 1 + 1 ≤ 3; omega) (by show 0 + 5 + 100 + 1000 ≤ 1105; omega) ?_
        exact mm_vret S hr hlocks hR ⟨q2, q, O9, nn_q, nn_O9, Or.inr nn_q2, fi9.1, fi9.2.1, fi9.2.2⟩ dX1_note_55
  · have c3 : ¬ (no < 512) := fun z => c3 ((nI_ltI (a := no) (b := 512) (by omega) (by omega)).mpr z)
    omega
