set_option maxHeartbeats 4000000 in
set_option maxRecDepth 100000 in
theorem law_loop {p : Program} {e : Env} {s : State} {m : MethodId} {below : List Frame} {meth : Method} {c : Code} (l : Launch) {b L : Nat} {xs : Nat → Int32} (hL : L ≤ 2560) (C0 : lw_At p s m meth c b L xs) (G : mm_G) (hC : mm_C G (fun q : Nat => s.heap.size ≤ q) s) (X Y : Nat) : ∀ (n k : Nat) (M1 : mm_M) (H : Heap) (locs : List Loc) (ls : Array Slot), 512 < k + n → k ≤ 512 → jI G M1 X Y k → mm_R G s (fun q : Nat => s.heap.size ≤ q) M1 H locs → lv_has ls 4 [(0, .ref b), (1, .ref X), (2, .ref Y), (3, .int (nI (5 * k)))] → W p l e room_1 s m #[Value.ref b] below meth c H locs (100 + 16 * k) (10000 + 2582 * k) (lw_Z below #[Value.ref b] s) (F0 m 18 ls []) := by
  intro n
  induction n with
  | zero =>
    intro k M1 H locs ls hn hk
    omega
  | succ n ih =>
    intro k M1 H locs ls hn hk hj hR hl
    obtain ⟨hx, hb, hr, hml, hown, hts, hX, hbl, hlocks, hgv⟩ := id C0
    refine lv_iload_n hx hb dL_law_18 rfl (lv_at hl 3 rfl) ?_
    refine lv_aload_n hx hb dL_law_19 rfl (lv_at hl 0 rfl) ?_
    refine va_slen hx hb hX hbl (Nat.not_le.mpr hbl) hR.2 dL_law_20 ?_
    refine mm_eqi (show Int32.ofNat L = nI L from rfl) ?_
    refine lv_iconst (v := nI 5) hx hb dL_law_21 (by decide) ?_
    refine lv_isub hx hb dL_law_22 ?_
    refine lv_icmp_gt (tgt := 609) hx hb dL_law_23 (by decide) (fun _ => ?_) (fun c1 => ?_)
    · refine lv_iconst (v := nI 1) hx hb dL_law_609 (by decide) ?_
      refine mm_eqi (show nI 1 = 1 from rfl) ?_
      refine va_forget (fun q hq => hR.2.2.2 q hq) ?_
      refine W.widen (k := 763966) (n := 6810350) (by omega) (by omega) ?_
      exact lw_ret hx hb hr hlocks dL_law_610
    · have hkL : 5 * k + 5 ≤ L := lw_more hk hL c1
      have hk1 : k < 512 := by omega
      have kk : ∀ (M2 : mm_M) (H : Heap) (locs : List Loc) (ls : Array Slot), jI G M2 X Y (k + 1) → mm_R G s (fun q : Nat => s.heap.size ≤ q) M2 H locs → lv_has ls 4 [(0, .ref b), (1, .ref X), (2, .ref Y), (3, .int (nI (5 * k)))] → W p l e room_1 s m #[Value.ref b] below meth c H locs (100 + 16 * (k + 1)) (10000 + 2582 * (k + 1)) (lw_Z below #[Value.ref b] s) (F0 m 603 ls []) := by
        intro M2 H locs ls hj hR hl
        refine lv_iinc (v := (nI (5 * k + 5))) (lv' := [(3, .int (nI (5 * k + 5))), (0, .ref b), (1, .ref X), (2, .ref Y)]) hx hb dL_law_603 hl (k := 3) rfl (by rw [show Int32.ofInt 5 = nI 5 from by decide]; exact nI_add _ _) (by decide) rfl (fun ls hl => ?_)
        refine lv_goto (tgt := 18) hx hb dL_law_606 (by decide) ?_
        exact ih (k + 1) M2 H locs ls (by omega) (by omega) hj hR (lv_sub hl [1, 2, 3, 0] (by rw [show 5 * (k + 1) = 5 * k + 5 by omega]; rfl))
      refine lv_aload_n hx hb dL_law_26 rfl (lv_at hl 0 rfl) ?_
      refine lv_iload_n hx hb dL_law_27 rfl (lv_at hl 3 rfl) ?_
      refine lw_sld hx hb hX hbl hR (j := 5 * k) (by omega) hL dL_law_28 ?_
      refine lv_bipush (v := nI 15) hx hb dL_law_29 (by decide) ?_
      refine lv_iand hx hb dL_law_31 ?_
      obtain ⟨j, hj16, ej⟩ := pk_andE (xs (5 * k)) (m := nI 15) 4 (by decide)
      refine mm_eqi ej ?_
      rcases (show j = 0 ∨ j = 1 ∨ j = 2 ∨ j = 3 ∨ j = 4 ∨ j = 5 ∨ j = 6 ∨ j = 7 ∨ j = 8 ∨ j = 9 ∨ j = 10 ∨ j = 11 ∨ j = 12 ∨ j = 13 ∨ j = 14 ∨ j = 15 by omega) with e1 | e1 | e1 | e1 | e1 | e1 | e1 | e1 | e1 | e1 | e1 | e1 | e1 | e1 | e1 | e1 <;> subst e1
      · refine lv_tableIn (tgt := 108) (off := 76) hx hb dL_law_32 (by decide) (by decide) (by decide) (by decide) ?_
        exact l_feed l hL C0 G hC X Y k hk1 hkL M1 H locs ls hj hR hl kk
      · refine lv_tableIn (tgt := 131) (off := 99) hx hb dL_law_32 (by decide) (by decide) (by decide) (by decide) ?_
        exact l_write l hL C0 G hC X Y k hk1 hkL M1 H locs ls hj hR hl kk
      · refine lv_tableIn (tgt := 164) (off := 132) hx hb dL_law_32 (by decide) (by decide) (by decide) (by decide) ?_
        exact l_read l hL C0 G hC X Y k hk1 hkL M1 H locs ls hj hR hl kk
      · refine lv_tableIn (tgt := 197) (off := 165) hx hb dL_law_32 (by decide) (by decide) (by decide) (by decide) ?_
        exact l_got l hL C0 G hC X Y k hk1 hkL M1 H locs ls hj hR hl kk
      · refine lv_tableIn (tgt := 220) (off := 188) hx hb dL_law_32 (by decide) (by decide) (by decide) (by decide) ?_
        exact l_split l hL C0 G hC X Y k hk1 hkL M1 H locs ls hj hR hl kk
      · refine lv_tableIn (tgt := 243) (off := 211) hx hb dL_law_32 (by decide) (by decide) (by decide) (by decide) ?_
        exact l_show l hL C0 G hC X Y k hk1 hkL M1 H locs ls hj hR hl kk
      · refine lv_tableIn (tgt := 276) (off := 244) hx hb dL_law_32 (by decide) (by decide) (by decide) (by decide) ?_
        exact l_graft l hL C0 G hC X Y k hk1 hkL M1 H locs ls hj hR hl kk
      · refine lv_tableIn (tgt := 319) (off := 287) hx hb dL_law_32 (by decide) (by decide) (by decide) (by decide) ?_
        exact l_poke l hL C0 G hC X Y k hk1 hkL M1 H locs ls hj hR hl kk
      · refine lv_tableIn (tgt := 372) (off := 340) hx hb dL_law_32 (by decide) (by decide) (by decide) (by decide) ?_
        exact l_spoil l hL C0 G hC X Y k hk1 hkL M1 H locs ls hj hR hl kk
      · refine lv_tableIn (tgt := 425) (off := 393) hx hb dL_law_32 (by decide) (by decide) (by decide) (by decide) ?_
        exact l_exchange l hL C0 G hC X Y k hk1 hkL M1 H locs ls hj hR hl kk
      · refine lv_tableIn (tgt := 458) (off := 426) hx hb dL_law_32 (by decide) (by decide) (by decide) (by decide) ?_
        exact l_statement l hL C0 G hC X Y k hk1 hkL M1 H locs ls hj hR hl kk
      · refine lv_tableIn (tgt := 501) (off := 469) hx hb dL_law_32 (by decide) (by decide) (by decide) (by decide) ?_
        exact l_seen l hL C0 G hC X Y k hk1 hkL M1 H locs ls hj hR hl kk
      · refine lv_tableIn (tgt := 534) (off := 502) hx hb dL_law_32 (by decide) (by decide) (by decide) (by decide) ?_
        exact l_digest l hL C0 G hC X Y k hk1 hkL M1 H locs ls hj hR hl kk
      · refine lv_tableIn (tgt := 567) (off := 535) hx hb dL_law_32 (by decide) (by decide) (by decide) (by decide) ?_
        exact l_plain l hL C0 G hC X Y k hk1 hkL M1 H locs ls hj hR hl kk
      · refine lv_tableIn (tgt := 580) (off := 548) hx hb dL_law_32 (by decide) (by decide) (by decide) (by decide) ?_
        exact l_count l hL C0 G hC X Y k hk1 hkL M1 H locs ls hj hR hl kk
      · refine lv_tableOut (tgt := 603) hx hb dL_law_32 (Or.inr (by decide)) (by decide) ?_
        obtain ⟨ad, md, cl, ll, chg, wl, sp, co, lr, sh, rem, nw, wst, wfc, wfl, wtn, wln, no, op, dc, eX, eY, hno, hj⟩ := hj
        refine W.widen (k := 100 + 16 * (k + 1)) (n := 10000 + 2582 * (k + 1)) (by omega) (by omega) ?_
        exact kk M1 H locs ls ⟨ad, md, cl, ll, chg, wl, sp, co, lr, sh, rem, nw, wst, wfc, wfl, wtn, wln, no, op, dc, eX, eY, by omega, hj⟩ hR hl
