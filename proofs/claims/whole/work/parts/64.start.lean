set_option maxHeartbeats 4000000 in
set_option maxRecDepth 100000 in
theorem whole_start {p : Program} {e : Env} {s : State} {m : MethodId} {below : List Frame} {meth : Method} {c : Code} (l : Launch) {b L : Nat} {xs : Nat → Int32} (hL : L ≤ 2560) (C0 : lw_At p s m meth c b L xs) : W p l e room_1 s m #[Value.ref b] below meth c s.heap [] 0 0 (lw_Z below #[Value.ref b] s) (entryFrame m ([Value.ref b] : List Value).toArray 4) := by
  obtain ⟨G, hC⟩ := law_C C0
  obtain ⟨hx, hb, hr, hml, hown, hts, hX, hbl, hlocks, hgv⟩ := id C0
  have S : CallFix p m c cL_law 4 s ([.ref b] : List Value).toArray wsL_law RL := ⟨hx, hb, hml, hown, fun w hw => hts w (wsL_law_in w hw)⟩
  have hA : ∀ q : Nat, s.heap.size ≤ q → (fun q : Nat => s.heap.size ≤ q) q := fun _ h => h
  obtain ⟨M0, eM0⟩ : ∃ z : mm_M, z = fun _ => none := ⟨_, rfl⟩
  have hR : mm_R G s (fun q : Nat => s.heap.size ≤ q) M0 s.heap [] := ⟨⟨[], fun k q h => by simp at h, ⟨fun i j p q h => by simp at h, fun k q h => by simp at h⟩, fun a e => by rw [eM0]; constructor <;> intro z <;> cases z⟩, va_S.rf⟩
  have hl := lv_entry ([.ref b]) (n := 4) (Nat.le_of_ble_eq_true rfl)
  rw [lg_entry_eq]
  generalize (lg_sl ([.ref b]) ++ List.replicate (4 - (lg_sl ([.ref b])).length) Slot.unset).toArray = ls at hl ⊢
  have hl : lv_has ls 4 [(0, .ref b)] := hl
  have hF : mm_fr [] M0 M0 := mm_fr.rf
  refine mm_new (fs := [.null, .null, .null, .null, .null, .null, .null, .int (nI 0), .null, .int (nI 0), .null, .int (nI 0), .int (nI 0), .int (nI 0)]) S hC hA hR (C := RX8) (T := TX8) (N := 14) (ci := 9) inlX8 rfl tyX8_ok (ir_1 _ (List.mem_of_getElem? (i := 0) rfl)) (ir_1 _ (List.mem_of_getElem? (i := 1) rfl)) (ir_1 _ (List.mem_of_getElem? (i := 2) rfl)) (fun j hj => by rcases (show j = 0 ∨ j = 1 ∨ j = 2 ∨ j = 3 ∨ j = 4 ∨ j = 5 ∨ j = 6 ∨ j = 7 ∨ j = 8 ∨ j = 9 ∨ j = 10 ∨ j = 11 ∨ j = 12 ∨ j = 13 by omega) with rfl | rfl | rfl | rfl | rfl | rfl | rfl | rfl | rfl | rfl | rfl | rfl | rfl | rfl <;> rfl) (Nat.le_of_ble_eq_true rfl) (Nat.le_of_ble_eq_true rfl) dL_law_0 (fun X H M61 z63 hXc f62 hR => ?_)
  refine lv_dup hx hb dL_law_3 rfl ?_
  refine mm_callv hA hR (va_runI (As := []) (rest := [.ref X]) S (c_X8_init l G M61 _ X hXc) (cwI 0 S.2.2.2.2 gL_law_X8_init rfl rfl rfl (S.2.2.2.2 (.initialized RX8) (ir_1 _ (List.mem_of_getElem? (i := 2) rfl))) (S.2.2.2.2 (.methodLink RL 9 yX8_init) (ir_1 _ (List.mem_of_getElem? (i := 6) rfl))) (S.2.2.2.2 (.instanceMethod yX8_init) (ir_1 _ (List.mem_of_getElem? (i := 7) rfl))) rfl (by decide +kernel) ⟨Nat.le_of_ble_eq_true rfl, Nat.le_of_ble_eq_true rfl⟩) (mm_preS hC hA hR _) rfl rfl hl.1 rfl (lv_room (Nat.le_of_ble_eq_true rfl)) dL_law_4 ⟨Nat.le_of_ble_eq_true rfl, Nat.le_of_ble_eq_true rfl⟩) (fun M64 H locs hp hR => ?_)
  obtain ⟨ad, tn0, a0, hI, h18, hnew, htn, hxa, ff⟩ := hp
  refine lv_astore_n (lv' := [(1, .ref X), (0, .ref b)]) hx hb dL_law_7 rfl hl (by decide) rfl (fun ls hl => ?_)
  refine mm_new (fs := [.null, .null, .null, .null, .null, .null, .int (nI 0), .null, .null, .int (nI 0), .null, .int (nI 0), .int (nI 0), .int (nI 0), .null, .int (nI 0), .null, .null, .null, .null, .null, .null, .int (nI 0)]) S hC hA hR (C := RX9) (T := TX9) (N := 23) (ci := 10) inlX9 rfl tyX9_ok (ir_1 _ (List.mem_of_getElem? (i := 3) rfl)) (ir_1 _ (List.mem_of_getElem? (i := 4) rfl)) (ir_1 _ (List.mem_of_getElem? (i := 5) rfl)) (fun j hj => by rcases (show j = 0 ∨ j = 1 ∨ j = 2 ∨ j = 3 ∨ j = 4 ∨ j = 5 ∨ j = 6 ∨ j = 7 ∨ j = 8 ∨ j = 9 ∨ j = 10 ∨ j = 11 ∨ j = 12 ∨ j = 13 ∨ j = 14 ∨ j = 15 ∨ j = 16 ∨ j = 17 ∨ j = 18 ∨ j = 19 ∨ j = 20 ∨ j = 21 ∨ j = 22 by omega) with rfl | rfl | rfl | rfl | rfl | rfl | rfl | rfl | rfl | rfl | rfl | rfl | rfl | rfl | rfl | rfl | rfl | rfl | rfl | rfl | rfl | rfl | rfl <;> rfl) (Nat.le_of_ble_eq_true rfl) (Nat.le_of_ble_eq_true rfl) dL_law_8 (fun Y H M65 z67 hYc f66 hR => ?_)
  refine lv_dup hx hb dL_law_11 rfl ?_
  refine mm_callv hA hR (va_runI (As := []) (rest := [.ref Y]) S (c_X9_init l G M65 _ Y hYc) (cwI 0 S.2.2.2.2 gL_law_X9_init rfl rfl rfl (S.2.2.2.2 (.initialized RX9) (ir_1 _ (List.mem_of_getElem? (i := 5) rfl))) (S.2.2.2.2 (.methodLink RL 12 yX9_init) (ir_10 _ (List.mem_of_getElem? (i := 21) rfl))) (S.2.2.2.2 (.instanceMethod yX9_init) (ir_10 _ (List.mem_of_getElem? (i := 22) rfl))) rfl (by decide +kernel) ⟨Nat.le_of_ble_eq_true rfl, Nat.le_of_ble_eq_true rfl⟩) (mm_preS hC hA hR _) rfl rfl hl.1 rfl (lv_room (Nat.le_of_ble_eq_true rfl)) dL_law_12 ⟨Nat.le_of_ble_eq_true rfl, Nat.le_of_ble_eq_true rfl⟩) (fun M68 H locs hp hR => ?_)
  obtain ⟨md, b0, hJ, hnewY, hya, ffY⟩ := hp
  refine lv_astore_n (lv' := [(2, .ref Y), (1, .ref X), (0, .ref b)]) hx hb dL_law_15 rfl hl (by decide) rfl (fun ls hl => ?_)
  refine lv_iconst (v := nI 0) hx hb dL_law_16 (by decide) ?_
  refine lv_istore_n (lv' := [(3, .int (nI 0)), (2, .ref Y), (1, .ref X), (0, .ref b)]) hx hb dL_law_17 rfl hl (by decide) rfl (fun ls hl => ?_)
  have hlt : ∀ r, xD 1 0 r → ∃ el, M64 (ad r) = some el := fun r hr => hxa.has r hr (fun z => by unfold xD at hr; omega)
  have hk3 : ∀ r, xD 1 0 r → ∀ el, M64 (ad r) = some el → M65 (ad r) = some el := fun r hr el he => f66.at he mm_n0
  have hadY : ∀ r, xD 1 0 r → ad r ≠ Y := fun r hr z => by
    obtain ⟨el, he⟩ := hlt r hr
    rw [z, z67] at he
    cases he
  have hk4 : ∀ r, xD 1 0 r → ∀ el, M64 (ad r) = some el → M68 (ad r) = some el := fun r hr el he => ffY.at (hk3 r hr el he) (mm_nc (hadY r hr) mm_n0)
  have hd : ∀ r k, xD 1 0 r → k < 17 → ad r ≠ md k := fun r k hr hk z => by
    by_cases e0 : k = 0
    · subst e0
      exact hadY r hr (z.trans b0)
    · obtain ⟨el, he⟩ := hlt r hr
      have h1 := hk3 r hr el he
      rw [z, hnewY k (by omega) hk] at h1
      cases h1
  have rt := rt_tn htn
  have hsg : ∀ c, c < 4 → ∀ i, i < 84 → sgn (rtn (fun _ => 0) (fun _ => 0)) (s0 c) i = sgn tn0 (s0 c) i := fun c hc i hi => sgn_ag rt (fun _ _ => rfl) i hi
  have hby : ∀ c, c < 4 → ∀ i, i < 84 → byt (sgn tn0 (s0 c) i) := fun c hc i hi => sgn_by (fun j hj => by rw [← rt j hj, rtn_at]; exact byt_root _ _ _) (s0_by hc) i hi
  have hbz : byt (0 : Int32) := by unfold byt; decide
  have hcp : ∀ c i, i < 84 → va_cpy (sgn tn0 (s0 c)) (s0 c) 0 0 84 i = sgn tn0 (s0 c) i := fun c i hi => by rw [cpy_in (by omega) (by omega), show 0 + (i - 0) = i by omega]
  have hya2 : yA G M68 md 0 0 (nI 0) (nI 0) (fun _ => 0) (fun _ => 0) (fun _ => 0) (fun c => sgn tn0 (s0 c)) 1 (fun _ c => va_cpy (sgn tn0 (s0 c)) (s0 c) 0 0 84) (fun _ _ => 0) (fun _ _ => 0) := hya.ag hsg (fun j hj c hc i hi => by rw [hcp c i hi, cpy_in (by omega) (by omega), show 0 + (i - 0) = i by omega]; exact hsg c hc i hi) (fun _ _ _ _ => rfl)
  have hj : jI G M68 X Y 0 := ⟨ad, md, 0, 0, nI 0, nI 0, nI 0, (fun _ => 0), (fun _ => 0), (fun _ => 0), _, 1, _, _, _, _, _, 0, _, _, a0, b0, Nat.le_refl _, hxa.keep (fun _ => h18) hk4, hI, ⟨by decide, by decide, Or.inl rfl, by decide, by decide, fun _ _ => Nat.zero_lt_one, fun _ _ => htn, by decide⟩, fun _ => h18, hya2, hJ, ⟨by decide, by decide, by decide, by decide, fun _ _ => Nat.zero_lt_one, fun _ _ _ _ => Nat.zero_le _, fun j hj c hc i hi => by show byt (va_cpy (sgn tn0 (s0 c)) (s0 c) 0 0 84 i); rw [hcp c i hi]; exact hby c hc i hi, hby, fun _ _ _ _ => hbz, fun i hi => absurd hi (Nat.not_lt_zero i)⟩, hd, fun _ => hon_init (fun q hq i hi => hcp q i hi)⟩
  refine W.widen (k := 100 + 16 * 0) (n := 10000 + 2582 * 0) (Nat.le_of_ble_eq_true rfl) (Nat.le_of_ble_eq_true rfl) ?_
  exact law_loop l hL C0 G hC X Y 513 0 _ _ _ ls (by omega) (by omega) hj hR (lv_sub hl [3, 2, 1, 0] rfl)
