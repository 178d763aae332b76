set_option maxHeartbeats 4000000 in
set_option maxRecDepth 100000 in
/-- refresh(files, file, sha) -/
theorem c_X6_refresh (l : Launch) (G : mm_G) (M : mm_M) (sz : Nat) (T nd F ca la h st w fi : Nat) (ln : Nat → Nat) (tn fc fl : Nat → Int32) (a b : Int32) (f g : Nat → Int32) (h1 : M h = some (ob 5 [.ref st, .ref w, .int a, .int b])) (h2 : M st = some (ia G 8 f)) (h3 : M w = some (ia G 64 g)) (h5 : M T = some (ob 7 [.ref nd])) (h6 : M nd = some (ia G 1024 tn)) (h7 : M F = some (ob 1 [.ref ca, .ref la])) (h8 : M ca = some (ia G 192 fc)) (h9 : M la = some (ia G 16 fl)) (hfi : fi < 16) (hln : ∀ x, x < 16 → fl x = nI (ln x) ∧ ln x ≤ 12) (ht : trO fc ln tn (fun x => x ≠ fi) (fun _ => True)) : mm_v l yX6_refresh wsX6_refresh ({ frames := 4, cells := 0, slots := 0, locals := 140 } : Room) G ([.ref T, .ref F, .int (nI fi), .ref h] : List Value) M sz (fun M' => ∃ tn', M' nd = some (ia G 1024 tn') ∧ trO fc ln tn' (fun _ => True) (fun _ => True) ∧ shJ G M' h st w ∧ mm_fr [h, st, w, nd] M M') := by
  refine mm_enter (cc := cX6_refresh) (maxL := 5) (ret := none) _ (by decide) rfl (Nat.le_of_ble_eq_true rfl) ?_
  intro p0 e0 s m0 be0 me0 c0 ls S hr hlocks hname hA hC hR hl
  have hx := S.1
  have hb := S.2.1
  have hl : lv_has ls 5 [(0, .ref T), (1, .ref F), (2, .int (nI fi)), (3, .ref h)] := hl
  have inRX0 : ∀ w ∈ wsX00, w ∈ wsX6_refresh := by decide +kernel
  have inRX4 : ∀ w ∈ wsX40, w ∈ wsX6_refresh := by decide +kernel
  have inRX6 : ∀ w ∈ wsX60, w ∈ wsX6_refresh := by decide +kernel
  have hF : mm_fr [h, st, w, nd] M M := mm_fr.rf
  refine lv_aload_n hx hb dX6_refresh_0 rfl (lv_at hl 0 rfl) ?_
  refine lv_aload_n hx hb dX6_refresh_1 rfl (lv_at hl 1 rfl) ?_
  refine lv_iload_n hx hb dX6_refresh_2 rfl (lv_at hl 2 rfl) ?_
  refine lv_aload_n hx hb dX6_refresh_3 rfl (lv_at hl 3 rfl) ?_
  refine mm_callv hA hR (va_runV (As := [.ref F, .int (nI fi), .ref h]) (rest := []) S (c_X6_setLeaf l G M _ T nd F ca la h st w fi (ln fi) tn fc fl _ _ _ _ h1 h2 h3 h5 h6 h7 h8 h9 (by omega) (hln _ (by omega)).2 (hln _ (by omega)).1) (cwV 3 S.2.2.2.2 gX6_refresh_X6_setLeaf rfl rfl rfl (by decide +kernel) ⟨Nat.le_of_ble_eq_true rfl, Nat.le_of_ble_eq_true rfl⟩) (mm_preV hC hA hR _ h5 rfl) rfl rfl hl.1 rfl (lv_room (Nat.le_of_ble_eq_true rfl)) dX6_refresh_4 ⟨Nat.le_of_ble_eq_true rfl, Nat.le_of_ble_eq_true rfl⟩) (fun M36 H locs hp hR => ?_)
  obtain ⟨e6, ej, ff⟩ := hp
  obtain ⟨f2, g2, y2, z2, e1, e2, e3⟩ := id ej
  have h5 := ff.at h5 (mm_nc (mm_neoo h5 h1 (by decide)) (mm_nc (mm_neoi h5 h2) (mm_nc (mm_neoi h5 h3) (mm_nc (mm_neoi h5 h6) mm_n0))))
  have h7 := ff.at h7 (mm_nc (mm_neoo h7 h1 (by decide)) (mm_nc (mm_neoi h7 h2) (mm_nc (mm_neoi h7 h3) (mm_nc (mm_neoi h7 h6) mm_n0))))
  have h8 := ff.at h8 (mm_nc (Ne.symm (mm_neoi h1 h8)) (mm_nc (mm_nelen h8 h2 (by decide)) (mm_nc (mm_nelen h8 h3 (by decide)) (mm_nc (mm_nelen h8 h6 (by decide)) mm_n0))))
  have h9 := ff.at h9 (mm_nc (Ne.symm (mm_neoi h1 h9)) (mm_nc (mm_nelen h9 h2 (by decide)) (mm_nc (mm_nelen h9 h3 (by decide)) (mm_nc (mm_nelen h9 h6 (by decide)) mm_n0))))
  have h1 : M36 h = some (ob 5 [.ref st, .ref w, .int y2, .int z2]) := e1
  have h2 : M36 st = some (ia G 8 f2) := e2
  have h3 : M36 w = some (ia G 64 g2) := e3
  have h6 : M36 nd = some (ia G 1024 (va_cpy (leafd fc fi (ln fi)) tn 0 ((16 + fi) * 32) 32)) := e6
  have hF := hF.tr ff (mm_ic 0 rfl (mm_ic 1 rfl (mm_ic 2 rfl (mm_ic 3 rfl mm_i0))))
  refine lv_bipush (v := nI 16) hx hb dX6_refresh_7 (by decide) ?_
  refine lv_iload_n hx hb dX6_refresh_9 rfl (lv_at hl 2 rfl) ?_
  refine lv_iadd hx hb dX6_refresh_10 ?_
  refine mm_eqi (nI_add _ _) ?_
  refine lv_iconst (v := nI 2) hx hb dX6_refresh_11 (by decide) ?_
  refine lv_idiv hx hb dX6_refresh_12 (by first | decide | (exact nI_ne0 (by omega) (by omega))) ?_
  refine mm_eqi (pk_div (by omega) (by omega) (by omega)) ?_
  refine lv_istore (lv' := [(4, .int (nI ((16 + fi) / 2))), (0, .ref T), (1, .ref F), (2, .int (nI fi)), (3, .ref h)]) hx hb dX6_refresh_13 hl (by decide) rfl (fun ls hl => ?_)
  have loop15 : ∀ (k : Nat) (x : Nat) (tn' : Nat → Int32) (M1 : mm_M) (H : Heap) (locs : List Loc) (ls : Array Slot), x < k → (x ≤ 15) → (trO fc ln tn' (fun _ => True) (fun n => n ≠ x)) → M1 T = some (ob 7 [.ref nd]) → M1 nd = some (ia G 1024 tn') → shJ G M1 h st w → M1 F = some (ob 1 [.ref ca, .ref la]) → M1 ca = some (ia G 192 fc) → M1 la = some (ia G 16 fl) → mm_fr [h, st, w, nd] M M1 → mm_R G s (mm_A M sz) M1 H locs → lv_has ls 5 [(0, .ref T), (3, .ref h), (4, .int (nI x))] → W p0 l e0 ({ frames := 4, cells := 0, slots := 0, locals := 140 } : Room) s m0 ([.ref T, .ref F, .int (nI fi), .ref h] : List Value).toArray be0 me0 c0 H locs 0 0 (MQ be0 (va_Qv (fun M' => ∃ tn', M' nd = some (ia G 1024 tn') ∧ trO fc ln tn' (fun _ => True) (fun _ => True) ∧ shJ G M' h st w ∧ mm_fr [h, st, w, nd] M M') (fun M' t => mm_H G (mm_A M sz) M' t.heap) (mm_A M sz)) ([.ref T, .ref F, .int (nI fi), .ref h] : List Value).toArray s 0 0 (mm_A M sz)) (F0 m0 15 ls []) := by
    intro k
    induction k with
    | zero =>
      intro x tn' M1 H locs ls hm hx15 ht h5 h6 hj h7 h8 h9 hF hR hl
      omega
    | succ k ih =>
      intro x tn' M1 H locs ls hm hx15 ht h5 h6 hj h7 h8 h9 hF hR hl
      obtain ⟨f, g, a, b, h1, h2, h3⟩ := id hj
      refine lv_iload hx hb dX6_refresh_15 (lv_at hl 2 rfl) ?_
      refine lv_iconst (v := nI 1) hx hb dX6_refresh_17 (by decide) ?_
      refine lv_icmp_lt (tgt := 37) hx hb dX6_refresh_18 (by decide) (fun c1 => ?_) (fun c1 => ?_)
      · have c1 : x < 1 := (nI_ltI (by omega) (by omega)).mp c1
        exact mm_vret S hr hlocks hR ⟨tn', h6, ht.mono (fun _ _ h => h) (fun n h1 _ _ => by omega), hj, hF⟩ dX6_refresh_37
      · have c1 : ¬ (x < 1) := fun z => c1 ((nI_ltI (by omega) (by omega)).mpr z)
        refine lv_aload_n hx hb dX6_refresh_21 rfl (lv_at hl 0 rfl) ?_
        refine lv_iload hx hb dX6_refresh_22 (lv_at hl 2 rfl) ?_
        refine lv_aload_n hx hb dX6_refresh_24 rfl (lv_at hl 1 rfl) ?_
        refine mm_callv hA hR (va_runV (As := [.int (nI x), .ref h]) (rest := []) S (c_X6_setNode l G M1 _ T nd h st w x tn' _ _ _ _ h1 h2 h3 h5 h6 (by omega) (by omega)) (cwV 2 S.2.2.2.2 gX6_refresh_X6_setNode rfl rfl rfl (by decide +kernel) ⟨Nat.le_of_ble_eq_true rfl, Nat.le_of_ble_eq_true rfl⟩) (mm_preV hC hA hR _ h5 rfl) rfl rfl hl.1 rfl (lv_room (Nat.le_of_ble_eq_true rfl)) dX6_refresh_25 ⟨Nat.le_of_ble_eq_true rfl, Nat.le_of_ble_eq_true rfl⟩) (fun M38 H locs hp hR => ?_)
        obtain ⟨e6, ej, ff⟩ := hp
        obtain ⟨f2, g2, y2, z2, e1, e2, e3⟩ := id ej
        have h5 := ff.at h5 (mm_nc (mm_neoo h5 h1 (by decide)) (mm_nc (mm_neoi h5 h2) (mm_nc (mm_neoi h5 h3) (mm_nc (mm_neoi h5 h6) mm_n0))))
        have h7 := ff.at h7 (mm_nc (mm_neoo h7 h1 (by decide)) (mm_nc (mm_neoi h7 h2) (mm_nc (mm_neoi h7 h3) (mm_nc (mm_neoi h7 h6) mm_n0))))
        have h8 := ff.at h8 (mm_nc (Ne.symm (mm_neoi h1 h8)) (mm_nc (mm_nelen h8 h2 (by decide)) (mm_nc (mm_nelen h8 h3 (by decide)) (mm_nc (mm_nelen h8 h6 (by decide)) mm_n0))))
        have h9 := ff.at h9 (mm_nc (Ne.symm (mm_neoi h1 h9)) (mm_nc (mm_nelen h9 h2 (by decide)) (mm_nc (mm_nelen h9 h3 (by decide)) (mm_nc (mm_nelen h9 h6 (by decide)) mm_n0))))
        have h1 : M38 h = some (ob 5 [.ref st, .ref w, .int y2, .int z2]) := e1
        have h2 : M38 st = some (ia G 8 f2) := e2
        have h3 : M38 w = some (ia G 64 g2) := e3
        have h6 : M38 nd = some (ia G 1024 (va_cpy (noded tn' x) tn' 0 (x * 32) 32)) := e6
        have hF := hF.tr ff (mm_ic 0 rfl (mm_ic 1 rfl (mm_ic 2 rfl (mm_ic 3 rfl mm_i0))))
        refine lv_iload hx hb dX6_refresh_28 (lv_at hl 2 rfl) ?_
        refine lv_iconst (v := nI 2) hx hb dX6_refresh_30 (by decide) ?_
        refine lv_idiv hx hb dX6_refresh_31 (by first | decide | (exact nI_ne0 (by omega) (by omega))) ?_
        refine mm_eqi (pk_div (by omega) (by omega) (by omega)) ?_
        refine lv_istore (lv' := [(4, .int (nI (x / 2))), (0, .ref T), (3, .ref h)]) hx hb dX6_refresh_32 hl (by decide) rfl (fun ls hl => ?_)
        refine lv_goto (tgt := 15) hx hb dX6_refresh_34 (by decide) ?_
        exact ih (x / 2) _ _ H locs ls (by omega) (by omega) ((trO_node (by omega) (by omega) ht).mono (fun _ _ h => h) (fun n _ _ h => by by_cases e : n = x; exact Or.inl e; exact Or.inr ⟨e, h⟩)) h5 h6 ej h7 h8 h9 hF hR (lv_sub hl [1, 2, 0] rfl)
  exact loop15 16 ((16 + fi) / 2) _ _ _ _ ls (by omega) (by omega) ((trO_leaf hfi ht).mono (fun x _ _ => by by_cases e : x = fi; exact Or.inl e; exact Or.inr e) (fun n _ _ h => ⟨trivial, h⟩)) h5 h6 ej h7 h8 h9 hF hR (lv_sub hl [1, 4, 0] rfl)

set_option maxHeartbeats 4000000 in
set_option maxRecDepth 100000 in
/-- build(files, sha) -/
theorem c_X6_build (l : Launch) (G : mm_G) (M : mm_M) (sz : Nat) (T nd F ca la h st w : Nat) (ln : Nat → Nat) (tn fc fl : Nat → Int32) (a b : Int32) (f g : Nat → Int32) (h1 : M h = some (ob 5 [.ref st, .ref w, .int a, .int b])) (h2 : M st = some (ia G 8 f)) (h3 : M w = some (ia G 64 g)) (h5 : M T = some (ob 7 [.ref nd])) (h6 : M nd = some (ia G 1024 tn)) (h7 : M F = some (ob 1 [.ref ca, .ref la])) (h8 : M ca = some (ia G 192 fc)) (h9 : M la = some (ia G 16 fl)) (hln : ∀ x, x < 16 → fl x = nI (ln x) ∧ ln x ≤ 12) : mm_v l yX6_build wsX6_build ({ frames := 4, cells := 0, slots := 0, locals := 140 } : Room) G ([.ref T, .ref F, .ref h] : List Value) M sz (fun M' => ∃ tn', M' nd = some (ia G 1024 tn') ∧ trO fc ln tn' (fun _ => True) (fun _ => True) ∧ shJ G M' h st w ∧ mm_fr [h, st, w, nd] M M') := by
  refine mm_enter (cc := cX6_build) (maxL := 4) (ret := none) _ (by decide) rfl (Nat.le_of_ble_eq_true rfl) ?_
  intro p0 e0 s m0 be0 me0 c0 ls S hr hlocks hname hA hC hR hl
  have hx := S.1
  have hb := S.2.1
  have hl : lv_has ls 4 [(0, .ref T), (1, .ref F), (2, .ref h)] := hl
  have inRX0 : ∀ w ∈ wsX00, w ∈ wsX6_build := by decide +kernel
  have inRX4 : ∀ w ∈ wsX40, w ∈ wsX6_build := by decide +kernel
  have inRX6 : ∀ w ∈ wsX60, w ∈ wsX6_build := by decide +kernel
  have hF : mm_fr [h, st, w, nd] M M := mm_fr.rf
  refine lv_iconst (v := nI 0) hx hb dX6_build_0 (by decide) ?_
  refine lv_istore_n (lv' := [(3, .int (nI 0)), (0, .ref T), (1, .ref F), (2, .ref h)]) hx hb dX6_build_1 rfl hl (by decide) rfl (fun ls hl => ?_)
  have loop2 : ∀ (k : Nat) (x : Nat) (tn' : Nat → Int32) (M1 : mm_M) (H : Heap) (locs : List Loc) (ls : Array Slot), 16 < x + k → (x ≤ 16) → (trO fc ln tn' (fun y => y < x) (fun _ => False)) → M1 T = some (ob 7 [.ref nd]) → M1 nd = some (ia G 1024 tn') → shJ G M1 h st w → M1 F = some (ob 1 [.ref ca, .ref la]) → M1 ca = some (ia G 192 fc) → M1 la = some (ia G 16 fl) → mm_fr [h, st, w, nd] M M1 → mm_R G s (mm_A M sz) M1 H locs → lv_has ls 4 [(0, .ref T), (1, .ref F), (2, .ref h), (3, .int (nI x))] → W p0 l e0 ({ frames := 4, cells := 0, slots := 0, locals := 140 } : Room) s m0 ([.ref T, .ref F, .ref h] : List Value).toArray be0 me0 c0 H locs 0 0 (MQ be0 (va_Qv (fun M' => ∃ tn', M' nd = some (ia G 1024 tn') ∧ trO fc ln tn' (fun _ => True) (fun _ => True) ∧ shJ G M' h st w ∧ mm_fr [h, st, w, nd] M M') (fun M' t => mm_H G (mm_A M sz) M' t.heap) (mm_A M sz)) ([.ref T, .ref F, .ref h] : List Value).toArray s 0 0 (mm_A M sz)) (F0 m0 2 ls []) := by
    intro k
    induction k with
    | zero =>
      intro x tn' M1 H locs ls hm hx16 ht h5 h6 hj h7 h8 h9 hF hR hl
      omega
    | succ k ih =>
      intro x tn' M1 H locs ls hm hx16 ht h5 h6 hj h7 h8 h9 hF hR hl
      obtain ⟨f, g, a, b, h1, h2, h3⟩ := id hj
      refine lv_iload_n hx hb dX6_build_2 rfl (lv_at hl 3 rfl) ?_
      refine lv_bipush (v := nI 16) hx hb dX6_build_3 (by decide) ?_
      refine lv_icmp_ge (tgt := 21) hx hb dX6_build_5 (by decide) (fun c1 => ?_) (fun c1 => ?_)
      · have c1 : 16 ≤ x := (nI_leI (by omega) (by omega)).mp c1
        refine lv_bipush (v := nI 15) hx hb dX6_build_21 (by decide) ?_
        refine lv_istore_n (lv' := [(3, .int (nI 15)), (0, .ref T), (1, .ref F), (2, .ref h)]) hx hb dX6_build_23 rfl hl (by decide) rfl (fun ls hl => ?_)
        have loop24 : ∀ (k : Nat) (y : Nat) (tn' : Nat → Int32) (M1 : mm_M) (H : Heap) (locs : List Loc) (ls : Array Slot), y < k → (y ≤ 15) → (trO fc ln tn' (fun _ => True) (fun n => y < n)) → M1 T = some (ob 7 [.ref nd]) → M1 nd = some (ia G 1024 tn') → shJ G M1 h st w → M1 F = some (ob 1 [.ref ca, .ref la]) → M1 ca = some (ia G 192 fc) → M1 la = some (ia G 16 fl) → mm_fr [h, st, w, nd] M M1 → mm_R G s (mm_A M sz) M1 H locs → lv_has ls 4 [(0, .ref T), (2, .ref h), (3, .int (nI y))] → W p0 l e0 ({ frames := 4, cells := 0, slots := 0, locals := 140 } : Room) s m0 ([.ref T, .ref F, .ref h] : List Value).toArray be0 me0 c0 H locs 0 0 (MQ be0 (va_Qv (fun M' => ∃ tn', M' nd = some (ia G 1024 tn') ∧ trO fc ln tn' (fun _ => True) (fun _ => True) ∧ shJ G M' h st w ∧ mm_fr [h, st, w, nd] M M') (fun M' t => mm_H G (mm_A M sz) M' t.heap) (mm_A M sz)) ([.ref T, .ref F, .ref h] : List Value).toArray s 0 0 (mm_A M sz)) (F0 m0 24 ls []) := by
          intro k
          induction k with
          | zero =>
            intro y tn' M1 H locs ls hm hy15 ht h5 h6 hj h7 h8 h9 hF hR hl
            omega
          | succ k ih =>
            intro y tn' M1 H locs ls hm hy15 ht h5 h6 hj h7 h8 h9 hF hR hl
            obtain ⟨f, g, a, b, h1, h2, h3⟩ := id hj
            refine lv_iload_n hx hb dX6_build_24 rfl (lv_at hl 2 rfl) ?_
            refine lv_iconst (v := nI 1) hx hb dX6_build_25 (by decide) ?_
            refine lv_icmp_lt (tgt := 41) hx hb dX6_build_26 (by decide) (fun c2 => ?_) (fun c2 => ?_)
            · have c2 : y < 1 := (nI_ltI (by omega) (by omega)).mp c2
              exact mm_vret S hr hlocks hR ⟨tn', h6, ht.mono (fun _ _ h => h) (fun n h1 _ _ => by omega), hj, hF⟩ dX6_build_41
            · have c2 : ¬ (y < 1) := fun z => c2 ((nI_ltI (by omega) (by omega)).mpr z)
              refine lv_aload_n hx hb dX6_build_29 rfl (lv_at hl 0 rfl) ?_
              refine lv_iload_n hx hb dX6_build_30 rfl (lv_at hl 2 rfl) ?_
              refine lv_aload_n hx hb dX6_build_31 rfl (lv_at hl 1 rfl) ?_
              refine mm_callv hA hR (va_runV (As := [.int (nI y), .ref h]) (rest := []) S (c_X6_setNode l G M1 _ T nd h st w y tn' _ _ _ _ h1 h2 h3 h5 h6 (by omega) (by omega)) (cwV 2 S.2.2.2.2 gX6_build_X6_setNode rfl rfl rfl (by decide +kernel) ⟨Nat.le_of_ble_eq_true rfl, Nat.le_of_ble_eq_true rfl⟩) (mm_preV hC hA hR _ h5 rfl) rfl rfl hl.1 rfl (lv_room (Nat.le_of_ble_eq_true rfl)) dX6_build_32 ⟨Nat.le_of_ble_eq_true rfl, Nat.le_of_ble_eq_true rfl⟩) (fun M40 H locs hp hR => ?_)
              obtain ⟨e6, ej, ff⟩ := hp
              obtain ⟨f2, g2, y2, z2, e1, e2, e3⟩ := id ej
              have h5 := ff.at h5 (mm_nc (mm_neoo h5 h1 (by decide)) (mm_nc (mm_neoi h5 h2) (mm_nc (mm_neoi h5 h3) (mm_nc (mm_neoi h5 h6) mm_n0))))
              have h7 := ff.at h7 (mm_nc (mm_neoo h7 h1 (by decide)) (mm_nc (mm_neoi h7 h2) (mm_nc (mm_neoi h7 h3) (mm_nc (mm_neoi h7 h6) mm_n0))))
              have h8 := ff.at h8 (mm_nc (Ne.symm (mm_neoi h1 h8)) (mm_nc (mm_nelen h8 h2 (by decide)) (mm_nc (mm_nelen h8 h3 (by decide)) (mm_nc (mm_nelen h8 h6 (by decide)) mm_n0))))
              have h9 := ff.at h9 (mm_nc (Ne.symm (mm_neoi h1 h9)) (mm_nc (mm_nelen h9 h2 (by decide)) (mm_nc (mm_nelen h9 h3 (by decide)) (mm_nc (mm_nelen h9 h6 (by decide)) mm_n0))))
              have h1 : M40 h = some (ob 5 [.ref st, .ref w, .int y2, .int z2]) := e1
              have h2 : M40 st = some (ia G 8 f2) := e2
              have h3 : M40 w = some (ia G 64 g2) := e3
              have h6 : M40 nd = some (ia G 1024 (va_cpy (noded tn' y) tn' 0 (y * 32) 32)) := e6
              have hF := hF.tr ff (mm_ic 0 rfl (mm_ic 1 rfl (mm_ic 2 rfl (mm_ic 3 rfl mm_i0))))
              refine lv_iinc (v := (nI (y - 1))) (lv' := [(3, .int (nI (y - 1))), (0, .ref T), (2, .ref h)]) hx hb dX6_build_35 hl (k := 2) rfl (by rw [show Int32.ofInt (-1) = -(nI 1) from by decide]; exact mm_dec (by omega)) (by decide) rfl (fun ls hl => ?_)
              refine lv_goto (tgt := 24) hx hb dX6_build_38 (by decide) ?_
              exact ih (y - 1) _ _ H locs ls (by omega) (by omega) ((trO_node (by omega) (by omega) ht).mono (fun _ _ h => h) (fun n _ _ h => by by_cases e : n = y; exact Or.inl e; exact Or.inr ⟨by omega, by omega⟩)) h5 h6 ej h7 h8 h9 hF hR (lv_sub hl [1, 2, 0] rfl)
        exact loop24 16 15 _ _ _ _ ls (by omega) (by omega) (ht.mono (fun y hy _ => by show y < x; omega) (fun n _ _ h => by omega)) h5 h6 hj h7 h8 h9 hF hR (lv_sub hl [1, 3, 0] rfl)
      · have c1 : ¬ (16 ≤ x) := fun z => c1 ((nI_leI (by omega) (by omega)).mpr z)
        refine lv_aload_n hx hb dX6_build_8 rfl (lv_at hl 0 rfl) ?_
        refine lv_aload_n hx hb dX6_build_9 rfl (lv_at hl 1 rfl) ?_
        refine lv_iload_n hx hb dX6_build_10 rfl (lv_at hl 3 rfl) ?_
        refine lv_aload_n hx hb dX6_build_11 rfl (lv_at hl 2 rfl) ?_
        refine mm_callv hA hR (va_runV (As := [.ref F, .int (nI x), .ref h]) (rest := []) S (c_X6_setLeaf l G M1 _ T nd F ca la h st w x (ln x) tn' fc fl _ _ _ _ h1 h2 h3 h5 h6 h7 h8 h9 (by omega) (hln _ (by omega)).2 (hln _ (by omega)).1) (cwV 3 S.2.2.2.2 gX6_build_X6_setLeaf rfl rfl rfl (by decide +kernel) ⟨Nat.le_of_ble_eq_true rfl, Nat.le_of_ble_eq_true rfl⟩) (mm_preV hC hA hR _ h5 rfl) rfl rfl hl.1 rfl (lv_room (Nat.le_of_ble_eq_true rfl)) dX6_build_12 ⟨Nat.le_of_ble_eq_true rfl, Nat.le_of_ble_eq_true rfl⟩) (fun M42 H locs hp hR => ?_)
        obtain ⟨e6, ej, ff⟩ := hp
        obtain ⟨f2, g2, y2, z2, e1, e2, e3⟩ := id ej
        have h5 := ff.at h5 (mm_nc (mm_neoo h5 h1 (by decide)) (mm_nc (mm_neoi h5 h2) (mm_nc (mm_neoi h5 h3) (mm_nc (mm_neoi h5 h6) mm_n0))))
        have h7 := ff.at h7 (mm_nc (mm_neoo h7 h1 (by decide)) (mm_nc (mm_neoi h7 h2) (mm_nc (mm_neoi h7 h3) (mm_nc (mm_neoi h7 h6) mm_n0))))
        have h8 := ff.at h8 (mm_nc (Ne.symm (mm_neoi h1 h8)) (mm_nc (mm_nelen h8 h2 (by decide)) (mm_nc (mm_nelen h8 h3 (by decide)) (mm_nc (mm_nelen h8 h6 (by decide)) mm_n0))))
        have h9 := ff.at h9 (mm_nc (Ne.symm (mm_neoi h1 h9)) (mm_nc (mm_nelen h9 h2 (by decide)) (mm_nc (mm_nelen h9 h3 (by decide)) (mm_nc (mm_nelen h9 h6 (by decide)) mm_n0))))
        have h1 : M42 h = some (ob 5 [.ref st, .ref w, .int y2, .int z2]) := e1
        have h2 : M42 st = some (ia G 8 f2) := e2
        have h3 : M42 w = some (ia G 64 g2) := e3
        have h6 : M42 nd = some (ia G 1024 (va_cpy (leafd fc x (ln x)) tn' 0 ((16 + x) * 32) 32)) := e6
        have hF := hF.tr ff (mm_ic 0 rfl (mm_ic 1 rfl (mm_ic 2 rfl (mm_ic 3 rfl mm_i0))))
        refine lv_iinc (v := (nI (x + 1))) (lv' := [(3, .int (nI (x + 1))), (0, .ref T), (1, .ref F), (2, .ref h)]) hx hb dX6_build_15 hl (k := 3) rfl (by rw [show Int32.ofInt 1 = nI 1 from by decide]; exact nI_add _ _) (by decide) rfl (fun ls hl => ?_)
        refine lv_goto (tgt := 2) hx hb dX6_build_18 (by decide) ?_
        exact ih (x + 1) _ _ H locs ls (by omega) (by omega) ((trO_leaf (by omega) ht).mono (fun y _ h => by by_cases e : y = x; exact Or.inl e; exact Or.inr (by omega)) (fun n _ _ h => h.elim)) h5 h6 ej h7 h8 h9 hF hR (lv_sub hl [1, 2, 3, 0] rfl)
  exact loop2 17 0 tn _ _ _ ls (by omega) (by omega) ⟨fun y _ h => absurd h (Nat.not_lt_zero y), fun _ _ _ h => h.elim⟩ h5 h6 ⟨_, _, _, _, h1, h2, h3⟩ h7 h8 h9 hF hR (lv_sub hl [1, 2, 3, 0] rfl)
