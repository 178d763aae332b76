/-! ===== the law's loop ===== -/
section LWR
variable {p : Program} {l : Launch} {e : Env} {R : Room} {s : State} {m : MethodId} {args : Array Value} {below : List Frame} {meth : Method} {c : Code} {H : Heap} {locs : List Loc} {cells slots : Nat} {Q : State → Prop}
variable {cc : ByteArray} {pc : Nat} {ls : Array Slot} {rest : List Value} {G : mm_G} {M : mm_M}
/-- an int of the script -/
theorem lw_sld (hx : p.tables.exec = Jvm.exec) (hb : c.code = cc) {b L : Nat} {xs : Nat → Int32} (hX : va_X b L xs s s.heap) (hbl : b < s.heap.size) (hR : mm_R G s (fun q : Nat => s.heap.size ≤ q) M H locs) {j : Nat} (hj : j < L) (hL : L ≤ 2560) (hdg : decode cc pc = .ok (.iaload, 1))
    (kk : W p l e R s m args below meth c H locs cells slots Q (F0 m (pc + 1) ls (.int (xs j) :: rest))) : W p l e R s m args below meth c H locs cells slots Q (F0 m pc ls (.int (nI j) :: .ref b :: rest)) := by
  refine va_sld hx hb hX hbl (Nat.not_le.mpr hbl) hR.2 (vp_in_nI hj (by omega)) hdg ?_
  rw [nI_clamp (by omega)]
  exact kk
end LWR
theorem lw_neg : ∀ L, L < 5 → nI L - nI 5 < 0 := by decide
theorem lw_more {k L : Nat} (hk : k ≤ 512) (hL : L ≤ 2560) (h : ¬ nI L - nI 5 < nI (5 * k)) : 5 * k + 5 ≤ L := by
  apply Classical.byContradiction
  intro z
  by_cases h5 : 5 ≤ L
  · rw [pk_sub h5] at h
    exact h (nI_lt (by omega) (by omega))
  · exact h (Int32.lt_of_lt_of_le (lw_neg L (by omega)) (Int32.not_lt.mp (nI_pos (by omega))))

set_option maxHeartbeats 4000000 in
set_option maxRecDepth 100000 in
/-- the turn that calls feed -/
theorem l_feed {p : Program} {e : Env} {s : State} {m : MethodId} {below : List Frame} {meth : Method} {c : Code} (l : Launch) {b L : Nat} {xs : Nat → Int32} (hL : L ≤ 2560) (C0 : lw_At p s m meth c b L xs) (G : mm_G) (hC : mm_C G (fun q : Nat => s.heap.size ≤ q) s) (X Y k : Nat) (hk : k < 512) (hkL : 5 * k + 5 ≤ L) (M1 : mm_M) (H : Heap) (locs : List Loc) (ls : Array Slot) (hj : jI G M1 X Y k) (hR : mm_R G s (fun q : Nat => s.heap.size ≤ q) M1 H locs) (hl : lv_has ls 4 [(0, .ref b), (1, .ref X), (2, .ref Y), (3, .int (nI (5 * k)))]) (kk : ∀ (M2 : mm_M) (H : Heap) (locs : List Loc) (ls : Array Slot), jI G M2 X Y (k + 1) → mm_R G s (fun q : Nat => s.heap.size ≤ q) M2 H locs → lv_has ls 4 [(0, .ref b), (1, .ref X), (2, .ref Y), (3, .int (nI (5 * k)))] → W p l e room_1 s m #[Value.ref b] below meth c H locs (100 + 16 * (k + 1)) (10000 + 2582 * (k + 1)) (lw_Z below #[Value.ref b] s) (F0 m 603 ls [])) : W p l e room_1 s m #[Value.ref b] below meth c H locs (100 + 16 * k) (10000 + 2582 * k) (lw_Z below #[Value.ref b] s) (F0 m 108 ls []) := by
  obtain ⟨hx, hb, hr, hml, hown, hts, hX, hbl, hlocks, hgv⟩ := id C0
  have S : CallFix p m c cL_law 4 s ([.ref b] : List Value).toArray wsL_law RL := ⟨hx, hb, hml, hown, fun w hw => hts w (wsL_law_in w hw)⟩
  have hA : ∀ q : Nat, s.heap.size ≤ q → (fun q : Nat => s.heap.size ≤ q) q := fun _ h => h
  obtain ⟨ad, md, cl, ll, chg, wl, sp, co, lr, sh, rem, nw, wst, wfc, wfl, wtn, wln, no, op, dc, eX, eY, hno, hj⟩ := hj
  subst eX eY
  obtain ⟨hxa, hI, hN, h18, hya, hJ, hyN, hd, hh⟩ := id hj
  have hX0 := hxa.1
  have hF : mm_fr [] M1 M1 := mm_fr.rf
  refine lv_aload_n hx hb dL_law_108 rfl (lv_at hl 1 rfl) ?_
  refine lv_aload_n hx hb dL_law_109 rfl (lv_at hl 0 rfl) ?_
  refine lv_iload_n hx hb dL_law_110 rfl (lv_at hl 3 rfl) ?_
  refine lv_iconst (v := nI 1) hx hb dL_law_111 (by decide) ?_
  refine lv_iadd hx hb dL_law_112 ?_
  refine mm_eqi (nI_add _ _) ?_
  refine lw_sld hx hb hX hbl hR (j := (5 * k + 1)) (by omega) hL dL_law_113 ?_
  refine mm_calli hA hR (va_runV (As := [.int (xs (5 * k + 1))]) (rest := []) S (c_X8_feed l G M1 _ ad cl ll chg wl sp co lr sh rem nw wst wfc wfl wtn wln no op dc (xs (5 * k + 1)) hxa hI hN h18) (cwV 1 S.2.2.2.2 gL_law_X8_feed rfl rfl rfl (by decide +kernel) ⟨Nat.le_of_ble_eq_true rfl, Nat.le_of_ble_eq_true rfl⟩) (mm_preV hC hA hR _ hX0 rfl) rfl rfl hl.1 rfl (lv_room (Nat.le_of_ble_eq_true rfl)) dL_law_114 ⟨by show 100 + 16 * k + 0 ≤ 763966; omega, by show 10000 + 2582 * k + 0 ≤ 6810350; omega⟩) (fun r1 M2 H locs hp hR => ?_)
  have hyk := fun (r2 : Int32) (M2 : mm_M) => j_feed (r2 := r2) (M2 := M2) hj rfl rfl hno hk hp
  have hy1 := (hyk 0 M2).1
  obtain ⟨⟨v22, f9, d9, hS9⟩, -⟩ := id hy1
  have hY0 := hS9.1
  refine lv_aload_n hx hb dL_law_117 rfl (lv_at hl 2 rfl) ?_
  refine lv_aload_n hx hb dL_law_118 rfl (lv_at hl 0 rfl) ?_
  refine lv_iload_n hx hb dL_law_119 rfl (lv_at hl 3 rfl) ?_
  refine lv_iconst (v := nI 1) hx hb dL_law_120 (by decide) ?_
  refine lv_iadd hx hb dL_law_121 ?_
  refine mm_eqi (nI_add _ _) ?_
  refine lw_sld hx hb hX hbl hR (j := (5 * k + 1)) (by omega) hL dL_law_122 ?_
  refine mm_calli hA hR (va_runV (As := [.int (xs (5 * k + 1))]) (rest := [.int r1]) S (c_X9_feed l G M2 _ md cl ll wl sp co lr sh rem nw wst wfc wln (xs (5 * k + 1)) hy1 hJ hyN) (cwV 1 S.2.2.2.2 gL_law_X9_feed rfl rfl rfl (by decide +kernel) ⟨Nat.le_of_ble_eq_true rfl, Nat.le_of_ble_eq_true rfl⟩) (mm_preV hC hA hR _ hY0 rfl) rfl rfl hl.1 rfl (lv_room (Nat.le_of_ble_eq_true rfl)) dL_law_123 ⟨by show 100 + 16 * k + 0 + 0 ≤ 763966; omega, by show 10000 + 2582 * k + 0 + 0 ≤ 6810350; omega⟩) (fun r3 M4 H locs hp2 hR => ?_)
  obtain ⟨er, hj2⟩ := (hyk _ _).2 hp2
  subst er
  refine lv_icmp_eq (tgt := 603) hx hb dL_law_126 (by decide) (fun _ => ?_) (fun z => absurd rfl z)
  refine W.widen (k := 100 + 16 * (k + 1)) (n := 10000 + 2582 * (k + 1)) (by show 100 + 16 * k + 0 + 0 ≤ 100 + 16 * (k + 1); omega) (by show 10000 + 2582 * k + 0 + 0 ≤ 10000 + 2582 * (k + 1); omega) ?_
  exact kk _ H locs ls hj2 hR hl

set_option maxHeartbeats 4000000 in
set_option maxRecDepth 100000 in
/-- the turn that calls write -/
theorem l_write {p : Program} {e : Env} {s : State} {m : MethodId} {below : List Frame} {meth : Method} {c : Code} (l : Launch) {b L : Nat} {xs : Nat → Int32} (hL : L ≤ 2560) (C0 : lw_At p s m meth c b L xs) (G : mm_G) (hC : mm_C G (fun q : Nat => s.heap.size ≤ q) s) (X Y k : Nat) (hk : k < 512) (hkL : 5 * k + 5 ≤ L) (M1 : mm_M) (H : Heap) (locs : List Loc) (ls : Array Slot) (hj : jI G M1 X Y k) (hR : mm_R G s (fun q : Nat => s.heap.size ≤ q) M1 H locs) (hl : lv_has ls 4 [(0, .ref b), (1, .ref X), (2, .ref Y), (3, .int (nI (5 * k)))]) (kk : ∀ (M2 : mm_M) (H : Heap) (locs : List Loc) (ls : Array Slot), jI G M2 X Y (k + 1) → mm_R G s (fun q : Nat => s.heap.size ≤ q) M2 H locs → lv_has ls 4 [(0, .ref b), (1, .ref X), (2, .ref Y), (3, .int (nI (5 * k)))] → W p l e room_1 s m #[Value.ref b] below meth c H locs (100 + 16 * (k + 1)) (10000 + 2582 * (k + 1)) (lw_Z below #[Value.ref b] s) (F0 m 603 ls [])) : W p l e room_1 s m #[Value.ref b] below meth c H locs (100 + 16 * k) (10000 + 2582 * k) (lw_Z below #[Value.ref b] s) (F0 m 131 ls []) := by
  obtain ⟨hx, hb, hr, hml, hown, hts, hX, hbl, hlocks, hgv⟩ := id C0
  have S : CallFix p m c cL_law 4 s ([.ref b] : List Value).toArray wsL_law RL := ⟨hx, hb, hml, hown, fun w hw => hts w (wsL_law_in w hw)⟩
  have hA : ∀ q : Nat, s.heap.size ≤ q → (fun q : Nat => s.heap.size ≤ q) q := fun _ h => h
  obtain ⟨ad, md, cl, ll, chg, wl, sp, co, lr, sh, rem, nw, wst, wfc, wfl, wtn, wln, no, op, dc, eX, eY, hno, hj⟩ := hj
  subst eX eY
  obtain ⟨hxa, hI, hN, h18, hya, hJ, hyN, hd, hh⟩ := id hj
  have hX0 := hxa.1
  have hF : mm_fr [] M1 M1 := mm_fr.rf
  refine lv_aload_n hx hb dL_law_131 rfl (lv_at hl 1 rfl) ?_
  refine lv_aload_n hx hb dL_law_132 rfl (lv_at hl 0 rfl) ?_
  refine lv_iload_n hx hb dL_law_133 rfl (lv_at hl 3 rfl) ?_
  refine lv_iconst (v := nI 1) hx hb dL_law_134 (by decide) ?_
  refine lv_iadd hx hb dL_law_135 ?_
  refine mm_eqi (nI_add _ _) ?_
  refine lw_sld hx hb hX hbl hR (j := (5 * k + 1)) (by omega) hL dL_law_136 ?_
  refine lv_aload_n hx hb dL_law_137 rfl (lv_at hl 0 rfl) ?_
  refine lv_iload_n hx hb dL_law_138 rfl (lv_at hl 3 rfl) ?_
  refine lv_iconst (v := nI 2) hx hb dL_law_139 (by decide) ?_
  refine lv_iadd hx hb dL_law_140 ?_
  refine mm_eqi (nI_add _ _) ?_
  refine lw_sld hx hb hX hbl hR (j := (5 * k + 2)) (by omega) hL dL_law_141 ?_
  refine mm_calli hA hR (va_runV (As := [.int (xs (5 * k + 1)), .int (xs (5 * k + 2))]) (rest := []) S (c_X8_write l G M1 _ ad cl ll chg wl sp co lr sh rem nw wst wfc wfl wtn wln no op dc (xs (5 * k + 1)) (xs (5 * k + 2)) hxa hI hN h18 (by omega)) (cwV 2 S.2.2.2.2 gL_law_X8_write rfl rfl rfl (by decide +kernel) ⟨Nat.le_of_ble_eq_true rfl, Nat.le_of_ble_eq_true rfl⟩) (mm_preV hC hA hR _ hX0 rfl) rfl rfl hl.1 rfl (lv_room (Nat.le_of_ble_eq_true rfl)) dL_law_142 ⟨by show 100 + 16 * k + 3 ≤ 763966; omega, by show 10000 + 2582 * k + 1105 ≤ 6810350; omega⟩) (fun r5 M6 H locs hp hR => ?_)
  have hyk := fun (r2 : Int32) (M2 : mm_M) => j_write (r2 := r2) (M2 := M2) hj rfl rfl hno hk hp
  have hy1 := (hyk 0 M6).1
  obtain ⟨⟨v22, f9, d9, hS9⟩, -⟩ := id hy1
  have hY0 := hS9.1
  refine lv_aload_n hx hb dL_law_145 rfl (lv_at hl 2 rfl) ?_
  refine lv_aload_n hx hb dL_law_146 rfl (lv_at hl 0 rfl) ?_
  refine lv_iload_n hx hb dL_law_147 rfl (lv_at hl 3 rfl) ?_
  refine lv_iconst (v := nI 1) hx hb dL_law_148 (by decide) ?_
  refine lv_iadd hx hb dL_law_149 ?_
  refine mm_eqi (nI_add _ _) ?_
  refine lw_sld hx hb hX hbl hR (j := (5 * k + 1)) (by omega) hL dL_law_150 ?_
  refine lv_aload_n hx hb dL_law_151 rfl (lv_at hl 0 rfl) ?_
  refine lv_iload_n hx hb dL_law_152 rfl (lv_at hl 3 rfl) ?_
  refine lv_iconst (v := nI 2) hx hb dL_law_153 (by decide) ?_
  refine lv_iadd hx hb dL_law_154 ?_
  refine mm_eqi (nI_add _ _) ?_
  refine lw_sld hx hb hX hbl hR (j := (5 * k + 2)) (by omega) hL dL_law_155 ?_
  refine mm_calli hA hR (va_runV (As := [.int (xs (5 * k + 1)), .int (xs (5 * k + 2))]) (rest := [.int r5]) S (c_X9_write l G M6 _ md cl ll wl sp co lr sh rem nw wst wfc wln (xs (5 * k + 1)) (xs (5 * k + 2)) hy1 hJ hyN) (cwV 2 S.2.2.2.2 gL_law_X9_write rfl rfl rfl (by decide +kernel) ⟨Nat.le_of_ble_eq_true rfl, Nat.le_of_ble_eq_true rfl⟩) (mm_preV hC hA hR _ hY0 rfl) rfl rfl hl.1 rfl (lv_room (Nat.le_of_ble_eq_true rfl)) dL_law_156 ⟨by show 100 + 16 * k + 3 + 0 ≤ 763966; omega, by show 10000 + 2582 * k + 1105 + 0 ≤ 6810350; omega⟩) (fun r7 M8 H locs hp2 hR => ?_)
  obtain ⟨er, hj2⟩ := (hyk _ _).2 hp2
  subst er
  refine lv_icmp_eq (tgt := 603) hx hb dL_law_159 (by decide) (fun _ => ?_) (fun z => absurd rfl z)
  refine W.widen (k := 100 + 16 * (k + 1)) (n := 10000 + 2582 * (k + 1)) (by show 100 + 16 * k + 3 + 0 ≤ 100 + 16 * (k + 1); omega) (by show 10000 + 2582 * k + 1105 + 0 ≤ 10000 + 2582 * (k + 1); omega) ?_
  exact kk _ H locs ls hj2 hR hl

set_option maxHeartbeats 4000000 in
set_option maxRecDepth 100000 in
/-- the turn that calls read -/
theorem l_read {p : Program} {e : Env} {s : State} {m : MethodId} {below : List Frame} {meth : Method} {c : Code} (l : Launch) {b L : Nat} {xs : Nat → Int32} (hL : L ≤ 2560) (C0 : lw_At p s m meth c b L xs) (G : mm_G) (hC : mm_C G (fun q : Nat => s.heap.size ≤ q) s) (X Y k : Nat) (hk : k < 512) (hkL : 5 * k + 5 ≤ L) (M1 : mm_M) (H : Heap) (locs : List Loc) (ls : Array Slot) (hj : jI G M1 X Y k) (hR : mm_R G s (fun q : Nat => s.heap.size ≤ q) M1 H locs) (hl : lv_has ls 4 [(0, .ref b), (1, .ref X), (2, .ref Y), (3, .int (nI (5 * k)))]) (kk : ∀ (M2 : mm_M) (H : Heap) (locs : List Loc) (ls : Array Slot), jI G M2 X Y (k + 1) → mm_R G s (fun q : Nat => s.heap.size ≤ q) M2 H locs → lv_has ls 4 [(0, .ref b), (1, .ref X), (2, .ref Y), (3, .int (nI (5 * k)))] → W p l e room_1 s m #[Value.ref b] below meth c H locs (100 + 16 * (k + 1)) (10000 + 2582 * (k + 1)) (lw_Z below #[Value.ref b] s) (F0 m 603 ls [])) : W p l e room_1 s m #[Value.ref b] below meth c H locs (100 + 16 * k) (10000 + 2582 * k) (lw_Z below #[Value.ref b] s) (F0 m 164 ls []) := by
  obtain ⟨hx, hb, hr, hml, hown, hts, hX, hbl, hlocks, hgv⟩ := id C0
  have S : CallFix p m c cL_law 4 s ([.ref b] : List Value).toArray wsL_law RL := ⟨hx, hb, hml, hown, fun w hw => hts w (wsL_law_in w hw)⟩
  have hA : ∀ q : Nat, s.heap.size ≤ q → (fun q : Nat => s.heap.size ≤ q) q := fun _ h => h
  obtain ⟨ad, md, cl, ll, chg, wl, sp, co, lr, sh, rem, nw, wst, wfc, wfl, wtn, wln, no, op, dc, eX, eY, hno, hj⟩ := hj
  subst eX eY
  obtain ⟨hxa, hI, hN, h18, hya, hJ, hyN, hd, hh⟩ := id hj
  have hX0 := hxa.1
  have hF : mm_fr [] M1 M1 := mm_fr.rf
  refine lv_aload_n hx hb dL_law_164 rfl (lv_at hl 1 rfl) ?_
  refine lv_aload_n hx hb dL_law_165 rfl (lv_at hl 0 rfl) ?_
  refine lv_iload_n hx hb dL_law_166 rfl (lv_at hl 3 rfl) ?_
  refine lv_iconst (v := nI 1) hx hb dL_law_167 (by decide) ?_
  refine lv_iadd hx hb dL_law_168 ?_
  refine mm_eqi (nI_add _ _) ?_
  refine lw_sld hx hb hX hbl hR (j := (5 * k + 1)) (by omega) hL dL_law_169 ?_
  refine lv_aload_n hx hb dL_law_170 rfl (lv_at hl 0 rfl) ?_
  refine lv_iload_n hx hb dL_law_171 rfl (lv_at hl 3 rfl) ?_
  refine lv_iconst (v := nI 2) hx hb dL_law_172 (by decide) ?_
  refine lv_iadd hx hb dL_law_173 ?_
  refine mm_eqi (nI_add _ _) ?_
  refine lw_sld hx hb hX hbl hR (j := (5 * k + 2)) (by omega) hL dL_law_174 ?_
  refine mm_calli hA hR (va_runV (As := [.int (xs (5 * k + 1)), .int (xs (5 * k + 2))]) (rest := []) S (c_X8_read l G M1 _ ad cl ll chg wl sp co lr sh rem nw wst wfc wfl wtn wln no op dc (xs (5 * k + 1)) (xs (5 * k + 2)) hxa hI hN h18 (by omega)) (cwV 2 S.2.2.2.2 gL_law_X8_read rfl rfl rfl (by decide +kernel) ⟨Nat.le_of_ble_eq_true rfl, Nat.le_of_ble_eq_true rfl⟩) (mm_preV hC hA hR _ hX0 rfl) rfl rfl hl.1 rfl (lv_room (Nat.le_of_ble_eq_true rfl)) dL_law_175 ⟨by show 100 + 16 * k + 3 ≤ 763966; omega, by show 10000 + 2582 * k + 1105 ≤ 6810350; omega⟩) (fun r9 M10 H locs hp hR => ?_)
  have hyk := fun (r2 : Int32) (M2 : mm_M) => j_read (r2 := r2) (M2 := M2) hj rfl rfl hno hk hp
  have hy1 := (hyk 0 M10).1
  obtain ⟨⟨v22, f9, d9, hS9⟩, -⟩ := id hy1
  have hY0 := hS9.1
  refine lv_aload_n hx hb dL_law_178 rfl (lv_at hl 2 rfl) ?_
  refine lv_aload_n hx hb dL_law_179 rfl (lv_at hl 0 rfl) ?_
  refine lv_iload_n hx hb dL_law_180 rfl (lv_at hl 3 rfl) ?_
  refine lv_iconst (v := nI 1) hx hb dL_law_181 (by decide) ?_
  refine lv_iadd hx hb dL_law_182 ?_
  refine mm_eqi (nI_add _ _) ?_
  refine lw_sld hx hb hX hbl hR (j := (5 * k + 1)) (by omega) hL dL_law_183 ?_
  refine lv_aload_n hx hb dL_law_184 rfl (lv_at hl 0 rfl) ?_
  refine lv_iload_n hx hb dL_law_185 rfl (lv_at hl 3 rfl) ?_
  refine lv_iconst (v := nI 2) hx hb dL_law_186 (by decide) ?_
  refine lv_iadd hx hb dL_law_187 ?_
  refine mm_eqi (nI_add _ _) ?_
  refine lw_sld hx hb hX hbl hR (j := (5 * k + 2)) (by omega) hL dL_law_188 ?_
  refine mm_calli hA hR (va_runV (As := [.int (xs (5 * k + 1)), .int (xs (5 * k + 2))]) (rest := [.int r9]) S (c_X9_read l G M10 _ md cl ll wl sp co lr sh rem nw wst wfc wln (xs (5 * k + 1)) (xs (5 * k + 2)) hy1 hJ hyN) (cwV 2 S.2.2.2.2 gL_law_X9_read rfl rfl rfl (by decide +kernel) ⟨Nat.le_of_ble_eq_true rfl, Nat.le_of_ble_eq_true rfl⟩) (mm_preV hC hA hR _ hY0 rfl) rfl rfl hl.1 rfl (lv_room (Nat.le_of_ble_eq_true rfl)) dL_law_189 ⟨by show 100 + 16 * k + 3 + 0 ≤ 763966; omega, by show 10000 + 2582 * k + 1105 + 0 ≤ 6810350; omega⟩) (fun r11 M12 H locs hp2 hR => ?_)
  obtain ⟨er, hj2⟩ := (hyk _ _).2 hp2
  subst er
  refine lv_icmp_eq (tgt := 603) hx hb dL_law_192 (by decide) (fun _ => ?_) (fun z => absurd rfl z)
  refine W.widen (k := 100 + 16 * (k + 1)) (n := 10000 + 2582 * (k + 1)) (by show 100 + 16 * k + 3 + 0 ≤ 100 + 16 * (k + 1); omega) (by show 10000 + 2582 * k + 1105 + 0 ≤ 10000 + 2582 * (k + 1); omega) ?_
  exact kk _ H locs ls hj2 hR hl

set_option maxHeartbeats 4000000 in
set_option maxRecDepth 100000 in
/-- the turn that calls got -/
theorem l_got {p : Program} {e : Env} {s : State} {m : MethodId} {below : List Frame} {meth : Method} {c : Code} (l : Launch) {b L : Nat} {xs : Nat → Int32} (hL : L ≤ 2560) (C0 : lw_At p s m meth c b L xs) (G : mm_G) (hC : mm_C G (fun q : Nat => s.heap.size ≤ q) s) (X Y k : Nat) (hk : k < 512) (hkL : 5 * k + 5 ≤ L) (M1 : mm_M) (H : Heap) (locs : List Loc) (ls : Array Slot) (hj : jI G M1 X Y k) (hR : mm_R G s (fun q : Nat => s.heap.size ≤ q) M1 H locs) (hl : lv_has ls 4 [(0, .ref b), (1, .ref X), (2, .ref Y), (3, .int (nI (5 * k)))]) (kk : ∀ (M2 : mm_M) (H : Heap) (locs : List Loc) (ls : Array Slot), jI G M2 X Y (k + 1) → mm_R G s (fun q : Nat => s.heap.size ≤ q) M2 H locs → lv_has ls 4 [(0, .ref b), (1, .ref X), (2, .ref Y), (3, .int (nI (5 * k)))] → W p l e room_1 s m #[Value.ref b] below meth c H locs (100 + 16 * (k + 1)) (10000 + 2582 * (k + 1)) (lw_Z below #[Value.ref b] s) (F0 m 603 ls [])) : W p l e room_1 s m #[Value.ref b] below meth c H locs (100 + 16 * k) (10000 + 2582 * k) (lw_Z below #[Value.ref b] s) (F0 m 197 ls []) := by
  obtain ⟨hx, hb, hr, hml, hown, hts, hX, hbl, hlocks, hgv⟩ := id C0
  have S : CallFix p m c cL_law 4 s ([.ref b] : List Value).toArray wsL_law RL := ⟨hx, hb, hml, hown, fun w hw => hts w (wsL_law_in w hw)⟩
  have hA : ∀ q : Nat, s.heap.size ≤ q → (fun q : Nat => s.heap.size ≤ q) q := fun _ h => h
  obtain ⟨ad, md, cl, ll, chg, wl, sp, co, lr, sh, rem, nw, wst, wfc, wfl, wtn, wln, no, op, dc, eX, eY, hno, hj⟩ := hj
  subst eX eY
  obtain ⟨hxa, hI, hN, h18, hya, hJ, hyN, hd, hh⟩ := id hj
  have hX0 := hxa.1
  have hF : mm_fr [] M1 M1 := mm_fr.rf
  refine lv_aload_n hx hb dL_law_197 rfl (lv_at hl 1 rfl) ?_
  refine lv_aload_n hx hb dL_law_198 rfl (lv_at hl 0 rfl) ?_
  refine lv_iload_n hx hb dL_law_199 rfl (lv_at hl 3 rfl) ?_
  refine lv_iconst (v := nI 1) hx hb dL_law_200 (by decide) ?_
  refine lv_iadd hx hb dL_law_201 ?_
  refine mm_eqi (nI_add _ _) ?_
  refine lw_sld hx hb hX hbl hR (j := (5 * k + 1)) (by omega) hL dL_law_202 ?_
  refine mm_calli hA hR (va_runV (As := [.int (xs (5 * k + 1))]) (rest := []) S (c_X8_got l G M1 _ ad cl ll chg wl sp co lr sh rem nw wst wfc wfl wtn wln no op dc (xs (5 * k + 1)) hxa hI hN h18) (cwV 1 S.2.2.2.2 gL_law_X8_got rfl rfl rfl (by decide +kernel) ⟨Nat.le_of_ble_eq_true rfl, Nat.le_of_ble_eq_true rfl⟩) (mm_preV hC hA hR _ hX0 rfl) rfl rfl hl.1 rfl (lv_room (Nat.le_of_ble_eq_true rfl)) dL_law_203 ⟨by show 100 + 16 * k + 0 ≤ 763966; omega, by show 10000 + 2582 * k + 0 ≤ 6810350; omega⟩) (fun r13 M14 H locs hp hR => ?_)
  have hyk := fun (r2 : Int32) (M2 : mm_M) => j_got (r2 := r2) (M2 := M2) hj rfl rfl hno hk hp
  have hy1 := (hyk 0 M14).1
  obtain ⟨⟨v22, f9, d9, hS9⟩, -⟩ := id hy1
  have hY0 := hS9.1
  refine lv_aload_n hx hb dL_law_206 rfl (lv_at hl 2 rfl) ?_
  refine lv_aload_n hx hb dL_law_207 rfl (lv_at hl 0 rfl) ?_
  refine lv_iload_n hx hb dL_law_208 rfl (lv_at hl 3 rfl) ?_
  refine lv_iconst (v := nI 1) hx hb dL_law_209 (by decide) ?_
  refine lv_iadd hx hb dL_law_210 ?_
  refine mm_eqi (nI_add _ _) ?_
  refine lw_sld hx hb hX hbl hR (j := (5 * k + 1)) (by omega) hL dL_law_211 ?_
  refine mm_calli hA hR (va_runV (As := [.int (xs (5 * k + 1))]) (rest := [.int r13]) S (c_X9_got l G M14 _ md cl ll wl sp co lr sh rem nw wst wfc wln (xs (5 * k + 1)) hy1 hJ hyN) (cwV 1 S.2.2.2.2 gL_law_X9_got rfl rfl rfl (by decide +kernel) ⟨Nat.le_of_ble_eq_true rfl, Nat.le_of_ble_eq_true rfl⟩) (mm_preV hC hA hR _ hY0 rfl) rfl rfl hl.1 rfl (lv_room (Nat.le_of_ble_eq_true rfl)) dL_law_212 ⟨by show 100 + 16 * k + 0 + 0 ≤ 763966; omega, by show 10000 + 2582 * k + 0 + 0 ≤ 6810350; omega⟩) (fun r15 M16 H locs hp2 hR => ?_)
  obtain ⟨er, hj2⟩ := (hyk _ _).2 hp2
  subst er
  refine lv_icmp_eq (tgt := 603) hx hb dL_law_215 (by decide) (fun _ => ?_) (fun z => absurd rfl z)
  refine W.widen (k := 100 + 16 * (k + 1)) (n := 10000 + 2582 * (k + 1)) (by show 100 + 16 * k + 0 + 0 ≤ 100 + 16 * (k + 1); omega) (by show 10000 + 2582 * k + 0 + 0 ≤ 10000 + 2582 * (k + 1); omega) ?_
  exact kk _ H locs ls hj2 hR hl

set_option maxHeartbeats 4000000 in
set_option maxRecDepth 100000 in
/-- the turn that calls split -/
theorem l_split {p : Program} {e : Env} {s : State} {m : MethodId} {below : List Frame} {meth : Method} {c : Code} (l : Launch) {b L : Nat} {xs : Nat → Int32} (hL : L ≤ 2560) (C0 : lw_At p s m meth c b L xs) (G : mm_G) (hC : mm_C G (fun q : Nat => s.heap.size ≤ q) s) (X Y k : Nat) (hk : k < 512) (hkL : 5 * k + 5 ≤ L) (M1 : mm_M) (H : Heap) (locs : List Loc) (ls : Array Slot) (hj : jI G M1 X Y k) (hR : mm_R G s (fun q : Nat => s.heap.size ≤ q) M1 H locs) (hl : lv_has ls 4 [(0, .ref b), (1, .ref X), (2, .ref Y), (3, .int (nI (5 * k)))]) (kk : ∀ (M2 : mm_M) (H : Heap) (locs : List Loc) (ls : Array Slot), jI G M2 X Y (k + 1) → mm_R G s (fun q : Nat => s.heap.size ≤ q) M2 H locs → lv_has ls 4 [(0, .ref b), (1, .ref X), (2, .ref Y), (3, .int (nI (5 * k)))] → W p l e room_1 s m #[Value.ref b] below meth c H locs (100 + 16 * (k + 1)) (10000 + 2582 * (k + 1)) (lw_Z below #[Value.ref b] s) (F0 m 603 ls [])) : W p l e room_1 s m #[Value.ref b] below meth c H locs (100 + 16 * k) (10000 + 2582 * k) (lw_Z below #[Value.ref b] s) (F0 m 220 ls []) := by
  obtain ⟨hx, hb, hr, hml, hown, hts, hX, hbl, hlocks, hgv⟩ := id C0
  have S : CallFix p m c cL_law 4 s ([.ref b] : List Value).toArray wsL_law RL := ⟨hx, hb, hml, hown, fun w hw => hts w (wsL_law_in w hw)⟩
  have hA : ∀ q : Nat, s.heap.size ≤ q → (fun q : Nat => s.heap.size ≤ q) q := fun _ h => h
  obtain ⟨ad, md, cl, ll, chg, wl, sp, co, lr, sh, rem, nw, wst, wfc, wfl, wtn, wln, no, op, dc, eX, eY, hno, hj⟩ := hj
  subst eX eY
  obtain ⟨hxa, hI, hN, h18, hya, hJ, hyN, hd, hh⟩ := id hj
  have hX0 := hxa.1
  have hF : mm_fr [] M1 M1 := mm_fr.rf
  refine lv_aload_n hx hb dL_law_220 rfl (lv_at hl 1 rfl) ?_
  refine lv_aload_n hx hb dL_law_221 rfl (lv_at hl 0 rfl) ?_
  refine lv_iload_n hx hb dL_law_222 rfl (lv_at hl 3 rfl) ?_
  refine lv_iconst (v := nI 1) hx hb dL_law_223 (by decide) ?_
  refine lv_iadd hx hb dL_law_224 ?_
  refine mm_eqi (nI_add _ _) ?_
  refine lw_sld hx hb hX hbl hR (j := (5 * k + 1)) (by omega) hL dL_law_225 ?_
  refine mm_calli hA hR (va_runV (As := [.int (xs (5 * k + 1))]) (rest := []) S (c_X8_split l G M1 _ ad cl ll chg wl sp co lr sh rem nw wst wfc wfl wtn wln no op dc (xs (5 * k + 1)) hxa hI hN h18) (cwV 1 S.2.2.2.2 gL_law_X8_split rfl rfl rfl (by decide +kernel) ⟨Nat.le_of_ble_eq_true rfl, Nat.le_of_ble_eq_true rfl⟩) (mm_preV hC hA hR _ hX0 rfl) rfl rfl hl.1 rfl (lv_room (Nat.le_of_ble_eq_true rfl)) dL_law_226 ⟨by show 100 + 16 * k + 16 ≤ 763966; omega, by show 10000 + 2582 * k + 2582 ≤ 6810350; omega⟩) (fun r17 M18 H locs hp hR => ?_)
  have hyk := fun (r2 : Int32) (M2 : mm_M) => j_split (r2 := r2) (M2 := M2) hj rfl rfl hno hk hp
  have hy1 := (hyk 0 M18).1
  obtain ⟨⟨v22, f9, d9, hS9⟩, -⟩ := id hy1
  have hY0 := hS9.1
  refine lv_aload_n hx hb dL_law_229 rfl (lv_at hl 2 rfl) ?_
  refine lv_aload_n hx hb dL_law_230 rfl (lv_at hl 0 rfl) ?_
  refine lv_iload_n hx hb dL_law_231 rfl (lv_at hl 3 rfl) ?_
  refine lv_iconst (v := nI 1) hx hb dL_law_232 (by decide) ?_
  refine lv_iadd hx hb dL_law_233 ?_
  refine mm_eqi (nI_add _ _) ?_
  refine lw_sld hx hb hX hbl hR (j := (5 * k + 1)) (by omega) hL dL_law_234 ?_
  refine mm_calli hA hR (va_runV (As := [.int (xs (5 * k + 1))]) (rest := [.int r17]) S (c_X9_split l G M18 _ md cl ll wl sp co lr sh rem nw wst wfc wln (xs (5 * k + 1)) hy1 hJ hyN) (cwV 1 S.2.2.2.2 gL_law_X9_split rfl rfl rfl (by decide +kernel) ⟨Nat.le_of_ble_eq_true rfl, Nat.le_of_ble_eq_true rfl⟩) (mm_preV hC hA hR _ hY0 rfl) rfl rfl hl.1 rfl (lv_room (Nat.le_of_ble_eq_true rfl)) dL_law_235 ⟨by show 100 + 16 * k + 16 + 0 ≤ 763966; omega, by show 10000 + 2582 * k + 2582 + 0 ≤ 6810350; omega⟩) (fun r19 M20 H locs hp2 hR => ?_)
  obtain ⟨er, hj2⟩ := (hyk _ _).2 hp2
  subst er
  refine lv_icmp_eq (tgt := 603) hx hb dL_law_238 (by decide) (fun _ => ?_) (fun z => absurd rfl z)
  refine W.widen (k := 100 + 16 * (k + 1)) (n := 10000 + 2582 * (k + 1)) (by show 100 + 16 * k + 16 + 0 ≤ 100 + 16 * (k + 1); omega) (by show 10000 + 2582 * k + 2582 + 0 ≤ 10000 + 2582 * (k + 1); omega) ?_
  exact kk _ H locs ls hj2 hR hl

set_option maxHeartbeats 4000000 in
set_option maxRecDepth 100000 in
/-- the turn that calls show -/
theorem l_show {p : Program} {e : Env} {s : State} {m : MethodId} {below : List Frame} {meth : Method} {c : Code} (l : Launch) {b L : Nat} {xs : Nat → Int32} (hL : L ≤ 2560) (C0 : lw_At p s m meth c b L xs) (G : mm_G) (hC : mm_C G (fun q : Nat => s.heap.size ≤ q) s) (X Y k : Nat) (hk : k < 512) (hkL : 5 * k + 5 ≤ L) (M1 : mm_M) (H : Heap) (locs : List Loc) (ls : Array Slot) (hj : jI G M1 X Y k) (hR : mm_R G s (fun q : Nat => s.heap.size ≤ q) M1 H locs) (hl : lv_has ls 4 [(0, .ref b), (1, .ref X), (2, .ref Y), (3, .int (nI (5 * k)))]) (kk : ∀ (M2 : mm_M) (H : Heap) (locs : List Loc) (ls : Array Slot), jI G M2 X Y (k + 1) → mm_R G s (fun q : Nat => s.heap.size ≤ q) M2 H locs → lv_has ls 4 [(0, .ref b), (1, .ref X), (2, .ref Y), (3, .int (nI (5 * k)))] → W p l e room_1 s m #[Value.ref b] below meth c H locs (100 + 16 * (k + 1)) (10000 + 2582 * (k + 1)) (lw_Z below #[Value.ref b] s) (F0 m 603 ls [])) : W p l e room_1 s m #[Value.ref b] below meth c H locs (100 + 16 * k) (10000 + 2582 * k) (lw_Z below #[Value.ref b] s) (F0 m 243 ls []) := by
  obtain ⟨hx, hb, hr, hml, hown, hts, hX, hbl, hlocks, hgv⟩ := id C0
  have S : CallFix p m c cL_law 4 s ([.ref b] : List Value).toArray wsL_law RL := ⟨hx, hb, hml, hown, fun w hw => hts w (wsL_law_in w hw)⟩
  have hA : ∀ q : Nat, s.heap.size ≤ q → (fun q : Nat => s.heap.size ≤ q) q := fun _ h => h
  obtain ⟨ad, md, cl, ll, chg, wl, sp, co, lr, sh, rem, nw, wst, wfc, wfl, wtn, wln, no, op, dc, eX, eY, hno, hj⟩ := hj
  subst eX eY
  obtain ⟨hxa, hI, hN, h18, hya, hJ, hyN, hd, hh⟩ := id hj
  have hX0 := hxa.1
  have hF : mm_fr [] M1 M1 := mm_fr.rf
  refine lv_aload_n hx hb dL_law_243 rfl (lv_at hl 1 rfl) ?_
  refine lv_aload_n hx hb dL_law_244 rfl (lv_at hl 0 rfl) ?_
  refine lv_iload_n hx hb dL_law_245 rfl (lv_at hl 3 rfl) ?_
  refine lv_iconst (v := nI 1) hx hb dL_law_246 (by decide) ?_
  refine lv_iadd hx hb dL_law_247 ?_
  refine mm_eqi (nI_add _ _) ?_
  refine lw_sld hx hb hX hbl hR (j := (5 * k + 1)) (by omega) hL dL_law_248 ?_
  refine lv_aload_n hx hb dL_law_249 rfl (lv_at hl 0 rfl) ?_
  refine lv_iload_n hx hb dL_law_250 rfl (lv_at hl 3 rfl) ?_
  refine lv_iconst (v := nI 2) hx hb dL_law_251 (by decide) ?_
  refine lv_iadd hx hb dL_law_252 ?_
  refine mm_eqi (nI_add _ _) ?_
  refine lw_sld hx hb hX hbl hR (j := (5 * k + 2)) (by omega) hL dL_law_253 ?_
  refine mm_calli hA hR (va_runV (As := [.int (xs (5 * k + 1)), .int (xs (5 * k + 2))]) (rest := []) S (c_X8_show l G M1 _ ad cl ll chg wl sp co lr sh rem nw wst wfc wfl wtn wln no op dc (xs (5 * k + 1)) (xs (5 * k + 2)) hxa hI hN h18) (cwV 2 S.2.2.2.2 gL_law_X8_show rfl rfl rfl (by decide +kernel) ⟨Nat.le_of_ble_eq_true rfl, Nat.le_of_ble_eq_true rfl⟩) (mm_preV hC hA hR _ hX0 rfl) rfl rfl hl.1 rfl (lv_room (Nat.le_of_ble_eq_true rfl)) dL_law_254 ⟨by show 100 + 16 * k + 0 ≤ 763966; omega, by show 10000 + 2582 * k + 0 ≤ 6810350; omega⟩) (fun r21 M22 H locs hp hR => ?_)
  have hyk := fun (r2 : Int32) (M2 : mm_M) => j_show (r2 := r2) (M2 := M2) hj rfl rfl hno hk hp
  have hy1 := (hyk 0 M22).1
  obtain ⟨⟨v22, f9, d9, hS9⟩, -⟩ := id hy1
  have hY0 := hS9.1
  refine lv_aload_n hx hb dL_law_257 rfl (lv_at hl 2 rfl) ?_
  refine lv_aload_n hx hb dL_law_258 rfl (lv_at hl 0 rfl) ?_
  refine lv_iload_n hx hb dL_law_259 rfl (lv_at hl 3 rfl) ?_
  refine lv_iconst (v := nI 1) hx hb dL_law_260 (by decide) ?_
  refine lv_iadd hx hb dL_law_261 ?_
  refine mm_eqi (nI_add _ _) ?_
  refine lw_sld hx hb hX hbl hR (j := (5 * k + 1)) (by omega) hL dL_law_262 ?_
  refine lv_aload_n hx hb dL_law_263 rfl (lv_at hl 0 rfl) ?_
  refine lv_iload_n hx hb dL_law_264 rfl (lv_at hl 3 rfl) ?_
  refine lv_iconst (v := nI 2) hx hb dL_law_265 (by decide) ?_
  refine lv_iadd hx hb dL_law_266 ?_
  refine mm_eqi (nI_add _ _) ?_
  refine lw_sld hx hb hX hbl hR (j := (5 * k + 2)) (by omega) hL dL_law_267 ?_
  refine mm_calli hA hR (va_runV (As := [.int (xs (5 * k + 1)), .int (xs (5 * k + 2))]) (rest := [.int r21]) S (c_X9_show l G M22 _ md cl ll wl sp co lr sh rem nw wst wfc wln (xs (5 * k + 1)) (xs (5 * k + 2)) hy1 hJ hyN) (cwV 2 S.2.2.2.2 gL_law_X9_show rfl rfl rfl (by decide +kernel) ⟨Nat.le_of_ble_eq_true rfl, Nat.le_of_ble_eq_true rfl⟩) (mm_preV hC hA hR _ hY0 rfl) rfl rfl hl.1 rfl (lv_room (Nat.le_of_ble_eq_true rfl)) dL_law_268 ⟨by show 100 + 16 * k + 0 + 0 ≤ 763966; omega, by show 10000 + 2582 * k + 0 + 0 ≤ 6810350; omega⟩) (fun r23 M24 H locs hp2 hR => ?_)
  obtain ⟨er, hj2⟩ := (hyk _ _).2 hp2
  subst er
  refine lv_icmp_eq (tgt := 603) hx hb dL_law_271 (by decide) (fun _ => ?_) (fun z => absurd rfl z)
  refine W.widen (k := 100 + 16 * (k + 1)) (n := 10000 + 2582 * (k + 1)) (by show 100 + 16 * k + 0 + 0 ≤ 100 + 16 * (k + 1); omega) (by show 10000 + 2582 * k + 0 + 0 ≤ 10000 + 2582 * (k + 1); omega) ?_
  exact kk _ H locs ls hj2 hR hl

set_option maxHeartbeats 4000000 in
set_option maxRecDepth 100000 in
/-- the turn that calls graft -/
theorem l_graft {p : Program} {e : Env} {s : State} {m : MethodId} {below : List Frame} {meth : Method} {c : Code} (l : Launch) {b L : Nat} {xs : Nat → Int32} (hL : L ≤ 2560) (C0 : lw_At p s m meth c b L xs) (G : mm_G) (hC : mm_C G (fun q : Nat => s.heap.size ≤ q) s) (X Y k : Nat) (hk : k < 512) (hkL : 5 * k + 5 ≤ L) (M1 : mm_M) (H : Heap) (locs : List Loc) (ls : Array Slot) (hj : jI G M1 X Y k) (hR : mm_R G s (fun q : Nat => s.heap.size ≤ q) M1 H locs) (hl : lv_has ls 4 [(0, .ref b), (1, .ref X), (2, .ref Y), (3, .int (nI (5 * k)))]) (kk : ∀ (M2 : mm_M) (H : Heap) (locs : List Loc) (ls : Array Slot), jI G M2 X Y (k + 1) → mm_R G s (fun q : Nat => s.heap.size ≤ q) M2 H locs → lv_has ls 4 [(0, .ref b), (1, .ref X), (2, .ref Y), (3, .int (nI (5 * k)))] → W p l e room_1 s m #[Value.ref b] below meth c H locs (100 + 16 * (k + 1)) (10000 + 2582 * (k + 1)) (lw_Z below #[Value.ref b] s) (F0 m 603 ls [])) : W p l e room_1 s m #[Value.ref b] below meth c H locs (100 + 16 * k) (10000 + 2582 * k) (lw_Z below #[Value.ref b] s) (F0 m 276 ls []) := by
  obtain ⟨hx, hb, hr, hml, hown, hts, hX, hbl, hlocks, hgv⟩ := id C0
  have S : CallFix p m c cL_law 4 s ([.ref b] : List Value).toArray wsL_law RL := ⟨hx, hb, hml, hown, fun w hw => hts w (wsL_law_in w hw)⟩
  have hA : ∀ q : Nat, s.heap.size ≤ q → (fun q : Nat => s.heap.size ≤ q) q := fun _ h => h
  obtain ⟨ad, md, cl, ll, chg, wl, sp, co, lr, sh, rem, nw, wst, wfc, wfl, wtn, wln, no, op, dc, eX, eY, hno, hj⟩ := hj
  subst eX eY
  obtain ⟨hxa, hI, hN, h18, hya, hJ, hyN, hd, hh⟩ := id hj
  have hX0 := hxa.1
  have hF : mm_fr [] M1 M1 := mm_fr.rf
  refine lv_aload_n hx hb dL_law_276 rfl (lv_at hl 1 rfl) ?_
  refine lv_aload_n hx hb dL_law_277 rfl (lv_at hl 0 rfl) ?_
  refine lv_iload_n hx hb dL_law_278 rfl (lv_at hl 3 rfl) ?_
  refine lv_iconst (v := nI 1) hx hb dL_law_279 (by decide) ?_
  refine lv_iadd hx hb dL_law_280 ?_
  refine mm_eqi (nI_add _ _) ?_
  refine lw_sld hx hb hX hbl hR (j := (5 * k + 1)) (by omega) hL dL_law_281 ?_
  refine lv_aload_n hx hb dL_law_282 rfl (lv_at hl 0 rfl) ?_
  refine lv_iload_n hx hb dL_law_283 rfl (lv_at hl 3 rfl) ?_
  refine lv_iconst (v := nI 2) hx hb dL_law_284 (by decide) ?_
  refine lv_iadd hx hb dL_law_285 ?_
  refine mm_eqi (nI_add _ _) ?_
  refine lw_sld hx hb hX hbl hR (j := (5 * k + 2)) (by omega) hL dL_law_286 ?_
  refine lv_aload_n hx hb dL_law_287 rfl (lv_at hl 0 rfl) ?_
  refine lv_iload_n hx hb dL_law_288 rfl (lv_at hl 3 rfl) ?_
  refine lv_iconst (v := nI 3) hx hb dL_law_289 (by decide) ?_
  refine lv_iadd hx hb dL_law_290 ?_
  refine mm_eqi (nI_add _ _) ?_
  refine lw_sld hx hb hX hbl hR (j := (5 * k + 3)) (by omega) hL dL_law_291 ?_
  refine mm_calli hA hR (va_runV (As := [.int (xs (5 * k + 1)), .int (xs (5 * k + 2)), .int (xs (5 * k + 3))]) (rest := []) S (c_X8_graft l G M1 _ ad cl ll chg wl sp co lr sh rem nw wst wfc wfl wtn wln no op dc (xs (5 * k + 1)) (xs (5 * k + 2)) (xs (5 * k + 3)) hxa hI hN h18) (cwV 3 S.2.2.2.2 gL_law_X8_graft rfl rfl rfl (by decide +kernel) ⟨Nat.le_of_ble_eq_true rfl, Nat.le_of_ble_eq_true rfl⟩) (mm_preV hC hA hR _ hX0 rfl) rfl rfl hl.1 rfl (lv_room (Nat.le_of_ble_eq_true rfl)) dL_law_292 ⟨by show 100 + 16 * k + 0 ≤ 763966; omega, by show 10000 + 2582 * k + 0 ≤ 6810350; omega⟩) (fun r25 M26 H locs hp hR => ?_)
  have hyk := fun (r2 : Int32) (M2 : mm_M) => j_graft (r2 := r2) (M2 := M2) hj rfl rfl hno hk hp
  have hy1 := (hyk 0 M26).1
  obtain ⟨⟨v22, f9, d9, hS9⟩, -⟩ := id hy1
  have hY0 := hS9.1
  refine lv_aload_n hx hb dL_law_295 rfl (lv_at hl 2 rfl) ?_
  refine lv_aload_n hx hb dL_law_296 rfl (lv_at hl 0 rfl) ?_
  refine lv_iload_n hx hb dL_law_297 rfl (lv_at hl 3 rfl) ?_
  refine lv_iconst (v := nI 1) hx hb dL_law_298 (by decide) ?_
  refine lv_iadd hx hb dL_law_299 ?_
  refine mm_eqi (nI_add _ _) ?_
  refine lw_sld hx hb hX hbl hR (j := (5 * k + 1)) (by omega) hL dL_law_300 ?_
  refine lv_aload_n hx hb dL_law_301 rfl (lv_at hl 0 rfl) ?_
  refine lv_iload_n hx hb dL_law_302 rfl (lv_at hl 3 rfl) ?_
  refine lv_iconst (v := nI 2) hx hb dL_law_303 (by decide) ?_
  refine lv_iadd hx hb dL_law_304 ?_
  refine mm_eqi (nI_add _ _) ?_
  refine lw_sld hx hb hX hbl hR (j := (5 * k + 2)) (by omega) hL dL_law_305 ?_
  refine lv_aload_n hx hb dL_law_306 rfl (lv_at hl 0 rfl) ?_
  refine lv_iload_n hx hb dL_law_307 rfl (lv_at hl 3 rfl) ?_
  refine lv_iconst (v := nI 3) hx hb dL_law_308 (by decide) ?_
  refine lv_iadd hx hb dL_law_309 ?_
  refine mm_eqi (nI_add _ _) ?_
  refine lw_sld hx hb hX hbl hR (j := (5 * k + 3)) (by omega) hL dL_law_310 ?_
  refine mm_calli hA hR (va_runV (As := [.int (xs (5 * k + 1)), .int (xs (5 * k + 2)), .int (xs (5 * k + 3))]) (rest := [.int r25]) S (c_X9_graft l G M26 _ md cl ll wl sp co lr sh rem nw wst wfc wln (xs (5 * k + 1)) (xs (5 * k + 2)) (xs (5 * k + 3)) hy1 hJ hyN) (cwV 3 S.2.2.2.2 gL_law_X9_graft rfl rfl rfl (by decide +kernel) ⟨Nat.le_of_ble_eq_true rfl, Nat.le_of_ble_eq_true rfl⟩) (mm_preV hC hA hR _ hY0 rfl) rfl rfl hl.1 rfl (lv_room (Nat.le_of_ble_eq_true rfl)) dL_law_311 ⟨by show 100 + 16 * k + 0 + 0 ≤ 763966; omega, by show 10000 + 2582 * k + 0 + 0 ≤ 6810350; omega⟩) (fun r27 M28 H locs hp2 hR => ?_)
  obtain ⟨er, hj2⟩ := (hyk _ _).2 hp2
  subst er
  refine lv_icmp_eq (tgt := 603) hx hb dL_law_314 (by decide) (fun _ => ?_) (fun z => absurd rfl z)
  refine W.widen (k := 100 + 16 * (k + 1)) (n := 10000 + 2582 * (k + 1)) (by show 100 + 16 * k + 0 + 0 ≤ 100 + 16 * (k + 1); omega) (by show 10000 + 2582 * k + 0 + 0 ≤ 10000 + 2582 * (k + 1); omega) ?_
  exact kk _ H locs ls hj2 hR hl

set_option maxHeartbeats 4000000 in
set_option maxRecDepth 100000 in
/-- the turn that calls poke -/
theorem l_poke {p : Program} {e : Env} {s : State} {m : MethodId} {below : List Frame} {meth : Method} {c : Code} (l : Launch) {b L : Nat} {xs : Nat → Int32} (hL : L ≤ 2560) (C0 : lw_At p s m meth c b L xs) (G : mm_G) (hC : mm_C G (fun q : Nat => s.heap.size ≤ q) s) (X Y k : Nat) (hk : k < 512) (hkL : 5 * k + 5 ≤ L) (M1 : mm_M) (H : Heap) (locs : List Loc) (ls : Array Slot) (hj : jI G M1 X Y k) (hR : mm_R G s (fun q : Nat => s.heap.size ≤ q) M1 H locs) (hl : lv_has ls 4 [(0, .ref b), (1, .ref X), (2, .ref Y), (3, .int (nI (5 * k)))]) (kk : ∀ (M2 : mm_M) (H : Heap) (locs : List Loc) (ls : Array Slot), jI G M2 X Y (k + 1) → mm_R G s (fun q : Nat => s.heap.size ≤ q) M2 H locs → lv_has ls 4 [(0, .ref b), (1, .ref X), (2, .ref Y), (3, .int (nI (5 * k)))] → W p l e room_1 s m #[Value.ref b] below meth c H locs (100 + 16 * (k + 1)) (10000 + 2582 * (k + 1)) (lw_Z below #[Value.ref b] s) (F0 m 603 ls [])) : W p l e room_1 s m #[Value.ref b] below meth c H locs (100 + 16 * k) (10000 + 2582 * k) (lw_Z below #[Value.ref b] s) (F0 m 319 ls []) := by
  obtain ⟨hx, hb, hr, hml, hown, hts, hX, hbl, hlocks, hgv⟩ := id C0
  have S : CallFix p m c cL_law 4 s ([.ref b] : List Value).toArray wsL_law RL := ⟨hx, hb, hml, hown, fun w hw => hts w (wsL_law_in w hw)⟩
  have hA : ∀ q : Nat, s.heap.size ≤ q → (fun q : Nat => s.heap.size ≤ q) q := fun _ h => h
  obtain ⟨ad, md, cl, ll, chg, wl, sp, co, lr, sh, rem, nw, wst, wfc, wfl, wtn, wln, no, op, dc, eX, eY, hno, hj⟩ := hj
  subst eX eY
  obtain ⟨hxa, hI, hN, h18, hya, hJ, hyN, hd, hh⟩ := id hj
  have hX0 := hxa.1
  have hF : mm_fr [] M1 M1 := mm_fr.rf
  refine lv_aload_n hx hb dL_law_319 rfl (lv_at hl 1 rfl) ?_
  refine lv_aload_n hx hb dL_law_320 rfl (lv_at hl 0 rfl) ?_
  refine lv_iload_n hx hb dL_law_321 rfl (lv_at hl 3 rfl) ?_
  refine lv_iconst (v := nI 1) hx hb dL_law_322 (by decide) ?_
  refine lv_iadd hx hb dL_law_323 ?_
  refine mm_eqi (nI_add _ _) ?_
  refine lw_sld hx hb hX hbl hR (j := (5 * k + 1)) (by omega) hL dL_law_324 ?_
  refine lv_aload_n hx hb dL_law_325 rfl (lv_at hl 0 rfl) ?_
  refine lv_iload_n hx hb dL_law_326 rfl (lv_at hl 3 rfl) ?_
  refine lv_iconst (v := nI 2) hx hb dL_law_327 (by decide) ?_
  refine lv_iadd hx hb dL_law_328 ?_
  refine mm_eqi (nI_add _ _) ?_
  refine lw_sld hx hb hX hbl hR (j := (5 * k + 2)) (by omega) hL dL_law_329 ?_
  refine lv_aload_n hx hb dL_law_330 rfl (lv_at hl 0 rfl) ?_
  refine lv_iload_n hx hb dL_law_331 rfl (lv_at hl 3 rfl) ?_
  refine lv_iconst (v := nI 3) hx hb dL_law_332 (by decide) ?_
  refine lv_iadd hx hb dL_law_333 ?_
  refine mm_eqi (nI_add _ _) ?_
  refine lw_sld hx hb hX hbl hR (j := (5 * k + 3)) (by omega) hL dL_law_334 ?_
  refine lv_aload_n hx hb dL_law_335 rfl (lv_at hl 0 rfl) ?_
  refine lv_iload_n hx hb dL_law_336 rfl (lv_at hl 3 rfl) ?_
  refine lv_iconst (v := nI 4) hx hb dL_law_337 (by decide) ?_
  refine lv_iadd hx hb dL_law_338 ?_
  refine mm_eqi (nI_add _ _) ?_
  refine lw_sld hx hb hX hbl hR (j := (5 * k + 4)) (by omega) hL dL_law_339 ?_
  refine mm_calli hA hR (va_runV (As := [.int (xs (5 * k + 1)), .int (xs (5 * k + 2)), .int (xs (5 * k + 3)), .int (xs (5 * k + 4))]) (rest := []) S (c_X8_poke l G M1 _ ad cl ll chg wl sp co lr sh rem nw wst wfc wfl wtn wln no op dc (xs (5 * k + 1)) (xs (5 * k + 2)) (xs (5 * k + 3)) (xs (5 * k + 4)) hxa hI hN h18) (cwV 4 S.2.2.2.2 gL_law_X8_poke rfl rfl rfl (by decide +kernel) ⟨Nat.le_of_ble_eq_true rfl, Nat.le_of_ble_eq_true rfl⟩) (mm_preV hC hA hR _ hX0 rfl) rfl rfl hl.1 rfl (lv_room (Nat.le_of_ble_eq_true rfl)) dL_law_340 ⟨by show 100 + 16 * k + 0 ≤ 763966; omega, by show 10000 + 2582 * k + 0 ≤ 6810350; omega⟩) (fun r29 M30 H locs hp hR => ?_)
  have hyk := fun (r2 : Int32) (M2 : mm_M) => j_poke (r2 := r2) (M2 := M2) hj rfl rfl hno hk hp
  have hy1 := (hyk 0 M30).1
  obtain ⟨⟨v22, f9, d9, hS9⟩, -⟩ := id hy1
  have hY0 := hS9.1
  refine lv_aload_n hx hb dL_law_343 rfl (lv_at hl 2 rfl) ?_
  refine lv_aload_n hx hb dL_law_344 rfl (lv_at hl 0 rfl) ?_
  refine lv_iload_n hx hb dL_law_345 rfl (lv_at hl 3 rfl) ?_
  refine lv_iconst (v := nI 1) hx hb dL_law_346 (by decide) ?_
  refine lv_iadd hx hb dL_law_347 ?_
  refine mm_eqi (nI_add _ _) ?_
  refine lw_sld hx hb hX hbl hR (j := (5 * k + 1)) (by omega) hL dL_law_348 ?_
  refine lv_aload_n hx hb dL_law_349 rfl (lv_at hl 0 rfl) ?_
  refine lv_iload_n hx hb dL_law_350 rfl (lv_at hl 3 rfl) ?_
  refine lv_iconst (v := nI 2) hx hb dL_law_351 (by decide) ?_
  refine lv_iadd hx hb dL_law_352 ?_
  refine mm_eqi (nI_add _ _) ?_
  refine lw_sld hx hb hX hbl hR (j := (5 * k + 2)) (by omega) hL dL_law_353 ?_
  refine lv_aload_n hx hb dL_law_354 rfl (lv_at hl 0 rfl) ?_
  refine lv_iload_n hx hb dL_law_355 rfl (lv_at hl 3 rfl) ?_
  refine lv_iconst (v := nI 3) hx hb dL_law_356 (by decide) ?_
  refine lv_iadd hx hb dL_law_357 ?_
  refine mm_eqi (nI_add _ _) ?_
  refine lw_sld hx hb hX hbl hR (j := (5 * k + 3)) (by omega) hL dL_law_358 ?_
  refine lv_aload_n hx hb dL_law_359 rfl (lv_at hl 0 rfl) ?_
  refine lv_iload_n hx hb dL_law_360 rfl (lv_at hl 3 rfl) ?_
  refine lv_iconst (v := nI 4) hx hb dL_law_361 (by decide) ?_
  refine lv_iadd hx hb dL_law_362 ?_
  refine mm_eqi (nI_add _ _) ?_
  refine lw_sld hx hb hX hbl hR (j := (5 * k + 4)) (by omega) hL dL_law_363 ?_
  refine mm_calli hA hR (va_runV (As := [.int (xs (5 * k + 1)), .int (xs (5 * k + 2)), .int (xs (5 * k + 3)), .int (xs (5 * k + 4))]) (rest := [.int r29]) S (c_X9_poke l G M30 _ md cl ll wl sp co lr sh rem nw wst wfc wln (xs (5 * k + 1)) (xs (5 * k + 2)) (xs (5 * k + 3)) (xs (5 * k + 4)) hy1 hJ hyN) (cwV 4 S.2.2.2.2 gL_law_X9_poke rfl rfl rfl (by decide +kernel) ⟨Nat.le_of_ble_eq_true rfl, Nat.le_of_ble_eq_true rfl⟩) (mm_preV hC hA hR _ hY0 rfl) rfl rfl hl.1 rfl (lv_room (Nat.le_of_ble_eq_true rfl)) dL_law_364 ⟨by show 100 + 16 * k + 0 + 0 ≤ 763966; omega, by show 10000 + 2582 * k + 0 + 0 ≤ 6810350; omega⟩) (fun r31 M32 H locs hp2 hR => ?_)
  obtain ⟨er, hj2⟩ := (hyk _ _).2 hp2
  subst er
  refine lv_icmp_eq (tgt := 603) hx hb dL_law_367 (by decide) (fun _ => ?_) (fun z => absurd rfl z)
  refine W.widen (k := 100 + 16 * (k + 1)) (n := 10000 + 2582 * (k + 1)) (by show 100 + 16 * k + 0 + 0 ≤ 100 + 16 * (k + 1); omega) (by show 10000 + 2582 * k + 0 + 0 ≤ 10000 + 2582 * (k + 1); omega) ?_
  exact kk _ H locs ls hj2 hR hl
