/-! ===== ForkWatch$World: its fifteen cells by a function: 0 itself, 1 told, 2 files, 3 contents, 4 lengths, 5 tree, 6 nodes, 7 + 2c and 8 + 2c client c's statement and its bytes ===== -/
def woA (G : mm_G) (M : mm_M) (wd : Nat → Nat) (st : Nat → Nat → Int32) (fc fl tn : Nat → Int32) : Prop :=
  M (wd 0) = some (ob 8 [.ref (wd 1), .ref (wd 2), .ref (wd 5)]) ∧ (∃ tf, M (wd 1) = some (sa G 4 tf) ∧ ∀ c, c < 4 → tf c = some (wd (7 + 2 * c))) ∧ (∀ c, c < 4 → M (wd (7 + 2 * c)) = some (ob 6 [.ref (wd (8 + 2 * c))]) ∧ M (wd (8 + 2 * c)) = some (ia G 84 (st c))) ∧
  M (wd 2) = some (ob 1 [.ref (wd 3), .ref (wd 4)]) ∧ M (wd 3) = some (ia G 192 fc) ∧ M (wd 4) = some (ia G 16 fl) ∧ M (wd 5) = some (ob 7 [.ref (wd 6)]) ∧ M (wd 6) = some (ia G 1024 tn)
def woI (wd : Nat → Nat) : Prop := ∀ i j, i < 15 → j < 15 → wd i = wd j → i = j
theorem woA.out {G : mm_G} {M M' : mm_M} {wd : Nat → Nat} {st : Nat → Nat → Int32} {fc fl tn : Nat → Int32} {L : List Nat} (h : woA G M wd st fc fl tn) (ff : mm_fr L M M') (hL : ∀ i, i < 15 → wd i ∉ L) : woA G M' wd st fc fl tn := by
  obtain ⟨h0, ⟨tf, h1, htf⟩, hs, h2, h3, h4, h5, h6⟩ := h
  exact ⟨ff.at h0 (hL 0 (by omega)), ⟨tf, ff.at h1 (hL 1 (by omega)), htf⟩, fun c hc => ⟨ff.at (hs c hc).1 (hL _ (by omega)), ff.at (hs c hc).2 (hL _ (by omega))⟩, ff.at h2 (hL 2 (by omega)), ff.at h3 (hL 3 (by omega)), ff.at h4 (hL 4 (by omega)), ff.at h5 (hL 5 (by omega)), ff.at h6 (hL 6 (by omega))⟩
theorem woA.fr0 {G : mm_G} {M M' : mm_M} {wd : Nat → Nat} {st : Nat → Nat → Int32} {fc fl tn : Nat → Int32} (h : woA G M wd st fc fl tn) (ff : mm_fr [] M M') : woA G M' wd st fc fl tn := h.out ff (fun _ _ => mm_n0)
def updS (st : Nat → Nat → Int32) (c : Nat) (g : Nat → Int32) : Nat → Nat → Int32 := fun k => if k = c then g else st k
theorem wo_ne {wd : Nat → Nat} (h : woI wd) {i j : Nat} (hi : i < 15) (hj : j < 15) (hn : i ≠ j) : wd i ≠ wd j := fun e => hn (h i j hi hj e)
theorem wo_n1 {wd : Nat → Nat} (h : woI wd) {i j : Nat} (hi : i < 15) (hj : j < 15) (hn : i ≠ j) : wd i ∉ [wd j] := mm_nc (wo_ne h hi hj hn) mm_n0
/-- one statement's bytes are others -/
theorem woA.bytes {G : mm_G} {M M' : mm_M} {wd : Nat → Nat} {st : Nat → Nat → Int32} {fc fl tn g : Nat → Int32} {c : Nat} (h : woA G M wd st fc fl tn) (hI : woI wd) (hc : c < 4) (ff : mm_fr [wd (8 + 2 * c)] M M') (hg : M' (wd (8 + 2 * c)) = some (ia G 84 g)) : woA G M' wd (updS st c g) fc fl tn := by
  obtain ⟨h0, ⟨tf, h1, htf⟩, hs, h2, h3, h4, h5, h6⟩ := h
  refine ⟨ff.at h0 (wo_n1 hI (by omega) (by omega) (by omega)), ⟨tf, ff.at h1 (wo_n1 hI (by omega) (by omega) (by omega)), htf⟩, fun k hk => ⟨ff.at (hs k hk).1 (wo_n1 hI (by omega) (by omega) (by omega)), ?_⟩, ff.at h2 (wo_n1 hI (by omega) (by omega) (by omega)), ff.at h3 (wo_n1 hI (by omega) (by omega) (by omega)), ff.at h4 (wo_n1 hI (by omega) (by omega) (by omega)), ff.at h5 (wo_n1 hI (by omega) (by omega) (by omega)), ff.at h6 (wo_n1 hI (by omega) (by omega) (by omega))⟩
  by_cases e : k = c
  · subst e
    unfold updS
    rw [if_pos rfl]
    exact hg
  · unfold updS
    rw [if_neg e]
    exact ff.at (hs k hk).2 (wo_n1 hI (by omega) (by omega) (by omega))
/-- files and tree are others -/
theorem woA.body {G : mm_G} {M M' : mm_M} {wd : Nat → Nat} {st : Nat → Nat → Int32} {fc fl tn fc' fl' tn' : Nat → Int32} {L : List Nat} (h : woA G M wd st fc fl tn) (ff : mm_fr L M M') (hL : ∀ i, i < 15 → i ≠ 3 → i ≠ 4 → i ≠ 6 → wd i ∉ L) (g3 : M' (wd 3) = some (ia G 192 fc')) (g4 : M' (wd 4) = some (ia G 16 fl')) (g6 : M' (wd 6) = some (ia G 1024 tn')) : woA G M' wd st fc' fl' tn' := by
  obtain ⟨h0, ⟨tf, h1, htf⟩, hs, h2, h3, h4, h5, h6⟩ := h
  exact ⟨ff.at h0 (hL 0 (by omega) (by omega) (by omega) (by omega)), ⟨tf, ff.at h1 (hL 1 (by omega) (by omega) (by omega) (by omega)), htf⟩, fun c hc => ⟨ff.at (hs c hc).1 (hL _ (by omega) (by omega) (by omega) (by omega)), ff.at (hs c hc).2 (hL _ (by omega) (by omega) (by omega) (by omega))⟩, ff.at h2 (hL 2 (by omega) (by omega) (by omega) (by omega)), g3, g4, ff.at h5 (hL 5 (by omega) (by omega) (by omega) (by omega)), g6⟩
def inl (st : Nat → Nat → Int32) : Prop := ∀ a b, a < b → b < 4 → na (st a) (st b) ∨ na (st b) (st a)
noncomputable def gr_go (st : Nat → Nat → Int32) : Nat → Nat
  | 0 => 0
  | i + 1 => @ite Nat (na (st (i + 1)) (st (gr_go st i))) (Classical.propDecidable _) (gr_go st i) (i + 1)
noncomputable def gr (st : Nat → Nat → Int32) : Nat := gr_go st 3
theorem gr_le (st : Nat → Nat → Int32) : ∀ i, gr_go st i ≤ i
  | 0 => Nat.le_refl 0
  | i + 1 => by
    show @ite Nat _ (Classical.propDecidable _) (gr_go st i) (i + 1) ≤ i + 1
    split
    · exact Nat.le_succ_of_le (gr_le st i)
    · exact Nat.le_refl _
theorem gr_y {st : Nat → Nat → Int32} {i : Nat} (h : na (st (i + 1)) (st (gr_go st i))) : gr_go st (i + 1) = gr_go st i := @if_pos _ (Classical.propDecidable _) h _ _ _
theorem gr_n {st : Nat → Nat → Int32} {i : Nat} (h : ¬ na (st (i + 1)) (st (gr_go st i))) : gr_go st (i + 1) = i + 1 := @if_neg _ (Classical.propDecidable _) h _ _ _
/-- lengths in their bounds, and every node what its two below come to -/
def tOK (fc fl tn : Nat → Int32) (ln : Nat → Nat) : Prop := (∀ x, x < 16 → fl x = nI (ln x) ∧ ln x ≤ 12) ∧ trO fc ln tn (fun _ => True) (fun _ => True)
theorem leafd_ag {fc fc' : Nat → Int32} {x len : Nat} (h : ∀ j, j < len → fc (x * 12 + j) = fc' (x * 12 + j)) : leafd fc x len = leafd fc' x len := by
  refine dgb_ag (fun j hj => ?_)
  unfold lmsg
  by_cases h0 : j = 0
  · rw [if_pos h0, if_pos h0]
  · rw [if_neg h0, if_neg h0]
    by_cases h1 : j = 1
    · rw [if_pos h1, if_pos h1]
    · rw [if_neg h1, if_neg h1]
      by_cases h2 : j = 2
      · rw [if_pos h2, if_pos h2]
      · rw [if_neg h2, if_neg h2, h (j - 3) (by omega)]

set_option maxHeartbeats 4000000 in
set_option maxRecDepth 100000 in
/-- isInLine() -/
theorem c_X7_isInLine (l : Launch) (G : mm_G) (M : mm_M) (sz : Nat) (wd : Nat → Nat) (st : Nat → Nat → Int32) (fc fl tn : Nat → Int32)  (hwo : woA G M wd st fc fl tn) : mm_i l yX7_isInLine wsX7_isInLine ({ frames := 3, cells := 0, slots := 0, locals := 80 } : Room) G ([.ref (wd 0)] : List Value) M sz (fun r M' => bq r (inl st) ∧ mm_fr [] M M') := by
  refine mm_enter (cc := cX7_isInLine) (maxL := 3) (ret := (some .boolean)) _ (by decide) rfl (Nat.le_of_ble_eq_true rfl) ?_
  intro p0 e0 s m0 be0 me0 c0 ls S hr hlocks hname hA hC hR hl
  have hx := S.1
  have hb := S.2.1
  have hl : lv_has ls 3 [(0, .ref (wd 0))] := hl
  have inRX5 : ∀ w ∈ wsX50, w ∈ wsX7_isInLine := by decide +kernel
  have inRX7 : ∀ w ∈ wsX70, w ∈ wsX7_isInLine := by decide +kernel
  have hF : mm_fr [] M M := mm_fr.rf
  refine lv_iconst (v := nI 0) hx hb dX7_isInLine_0 (by decide) ?_
  refine lv_istore_n (lv' := [(1, .int (nI 0)), (0, .ref (wd 0))]) hx hb dX7_isInLine_1 rfl hl (by decide) rfl (fun ls hl => ?_)
  have loop : ∀ (n x : Nat) (M1 : mm_M) (H : Heap) (locs : List Loc) (ls : Array Slot), 4 < x + n → x ≤ 4 → (∀ a b, a < b → b < 4 → a < x → na (st a) (st b) ∨ na (st b) (st a)) → woA G M1 wd st fc fl tn → mm_fr [] M M1 → mm_R G s (mm_A M sz) M1 H locs → lv_has ls 3 [(0, .ref (wd 0)), (1, .int (nI x))] → W p0 l e0 ({ frames := 3, cells := 0, slots := 0, locals := 80 } : Room) s m0 ([.ref (wd 0)] : List Value).toArray be0 me0 c0 H locs 0 0 (MQ be0 (va_Qi (fun r M' => bq r (inl st) ∧ mm_fr [] M M') (fun M' t => mm_H G (mm_A M sz) M' t.heap) (mm_A M sz)) ([.ref (wd 0)] : List Value).toArray s 0 0 (mm_A M sz)) (F0 m0 2 ls []) := by
    intro n
    induction n with
    | zero =>
      intro x M1 H locs ls hn hx4 hq hwo hF hR hl
      omega
    | succ n ih =>
      intro x M1 H locs ls hn hx4 hq hwo hF hR hl
      refine lv_iload_n hx hb dX7_isInLine_2 rfl (lv_at hl 1 rfl) ?_
      refine lv_iconst (v := nI 4) hx hb dX7_isInLine_3 (by decide) ?_
      refine lv_icmp_ge (tgt := 48) hx hb dX7_isInLine_4 (by decide) (fun c1 => ?_) (fun c1 => ?_)
      · have c1 : 4 ≤ x := (nI_leI (a := 4) (b := x) (by omega) (by omega)).mp c1
        refine lv_iconst (v := nI 1) hx hb dX7_isInLine_48 (by decide) ?_
        exact mm_zret S hr hlocks (by decide) hR ⟨Or.inl ⟨rfl, fun a b h1 h2 => hq a b h1 h2 (by omega)⟩, hF⟩ dX7_isInLine_49
      · have c1 : ¬ (4 ≤ x) := fun z => c1 ((nI_leI (a := 4) (b := x) (by omega) (by omega)).mpr z)
        refine lv_iload_n hx hb dX7_isInLine_7 rfl (lv_at hl 1 rfl) ?_
        refine lv_iconst (v := nI 1) hx hb dX7_isInLine_8 (by decide) ?_
        refine lv_iadd hx hb dX7_isInLine_9 ?_
        refine mm_eqi (nI_add _ _) ?_
        refine lv_istore_n (lv' := [(2, .int (nI (x + 1))), (0, .ref (wd 0)), (1, .int (nI x))]) hx hb dX7_isInLine_10 rfl hl (by decide) rfl (fun ls hl => ?_)
        have loop2 : ∀ (n y : Nat) (M1 : mm_M) (H : Heap) (locs : List Loc) (ls : Array Slot), 4 < y + n → y ≤ 4 → x < y → (∀ b, x < b → b < y → na (st x) (st b) ∨ na (st b) (st x)) → woA G M1 wd st fc fl tn → mm_fr [] M M1 → mm_R G s (mm_A M sz) M1 H locs → lv_has ls 3 [(0, .ref (wd 0)), (1, .int (nI x)), (2, .int (nI y))] → W p0 l e0 ({ frames := 3, cells := 0, slots := 0, locals := 80 } : Room) s m0 ([.ref (wd 0)] : List Value).toArray be0 me0 c0 H locs 0 0 (MQ be0 (va_Qi (fun r M' => bq r (inl st) ∧ mm_fr [] M M') (fun M' t => mm_H G (mm_A M sz) M' t.heap) (mm_A M sz)) ([.ref (wd 0)] : List Value).toArray s 0 0 (mm_A M sz)) (F0 m0 11 ls []) := by
          intro k
          induction k with
          | zero =>
            intro y M1 H locs ls hn hy4 hxy hp2 hwo hF hR hl
            omega
          | succ k ih2 =>
            intro y M1 H locs ls hn hy4 hxy hp2 hwo hF hR hl
            refine lv_iload_n hx hb dX7_isInLine_11 rfl (lv_at hl 2 rfl) ?_
            refine lv_iconst (v := nI 4) hx hb dX7_isInLine_12 (by decide) ?_
            refine lv_icmp_ge (tgt := 42) hx hb dX7_isInLine_13 (by decide) (fun c2 => ?_) (fun c2 => ?_)
            · have c2 : 4 ≤ y := (nI_leI (a := 4) (b := y) (by omega) (by omega)).mp c2
              refine lv_iinc (v := (nI (x + 1))) (lv' := [(1, .int (nI (x + 1))), (0, .ref (wd 0)), (2, .int (nI y))]) hx hb dX7_isInLine_42 hl (k := 1) rfl (by rw [show Int32.ofInt 1 = nI 1 from by decide]; exact nI_add _ _) (by decide) rfl (fun ls hl => ?_)
              refine lv_goto (tgt := 2) hx hb dX7_isInLine_45 (by decide) ?_
              exact ih (x + 1) _ H locs ls (by omega) (by omega) (fun a b h1 h2 h3 => by by_cases e : a = x; (subst e; exact hp2 b h1 (by omega)); exact hq a b h1 h2 (by omega)) hwo hF hR (lv_sub hl [1, 0] rfl)
            · have c2 : ¬ (4 ≤ y) := fun z => c2 ((nI_leI (a := 4) (b := y) (by omega) (by omega)).mpr z)
              obtain ⟨hw0, ⟨tf, hw1, htf⟩, hst, hw2, hw3, hw4, hw5, hw6⟩ := id hwo
              obtain ⟨k3a, k3b⟩ := hst x (by omega)
              obtain ⟨k4a, k4b⟩ := hst y (by omega)
              refine lv_aload_n hx hb dX7_isInLine_16 rfl (lv_at hl 0 rfl) ?_
              refine mm_get S hC hR (C := RX7) (T := TX7) (N := 3) (ref := "ForkWatch$World") (v := .ref (wd 1)) 0 hw0 inRX7 rfl (by decide) (by decide +kernel) (fun _ h9 => h9) rfl dX7_isInLine_17 ?_
              refine lv_iload_n hx hb dX7_isInLine_20 rfl (lv_at hl 1 rfl) ?_
              refine mm_sald S hC hR hw1 (j := x) (v := .ref (wd (7 + 2 * x))) (by omega) (by omega) (by rw [htf _ (by omega)]; rfl) dX7_isInLine_21 ?_
              refine lv_aload_n hx hb dX7_isInLine_22 rfl (lv_at hl 0 rfl) ?_
              refine mm_get S hC hR (C := RX7) (T := TX7) (N := 3) (ref := "ForkWatch$World") (v := .ref (wd 1)) 0 hw0 inRX7 rfl (by decide) (by decide +kernel) (fun _ h9 => h9) rfl dX7_isInLine_23 ?_
              refine lv_iload_n hx hb dX7_isInLine_26 rfl (lv_at hl 2 rfl) ?_
              refine mm_sald S hC hR hw1 (j := y) (v := .ref (wd (7 + 2 * y))) (by omega) (by omega) (by rw [htf _ (by omega)]; rfl) dX7_isInLine_27 ?_
              refine mm_calli hA hR (va_runV (As := [.ref (wd (7 + 2 * y))]) (rest := []) S (c_X5_isInLineWith l G M1 _ _ _ _ _ (st x) (st y) k3a k3b k4a k4b) (cwV 1 S.2.2.2.2 gX7_isInLine_X5_isInLineWith rfl rfl rfl (by decide +kernel) ⟨Nat.le_of_ble_eq_true rfl, Nat.le_of_ble_eq_true rfl⟩) (mm_preV hC hA hR _ k3a rfl) rfl rfl hl.1 rfl (lv_room (Nat.le_of_ble_eq_true rfl)) dX7_isInLine_28 ⟨Nat.le_of_ble_eq_true rfl, Nat.le_of_ble_eq_true rfl⟩) (fun r5 M6 H locs hp hR => ?_)
              obtain ⟨q1, ff⟩ := hp
              have hwo := hwo.fr0 ff
              have hF := hF.tr ff mm_i0
              rcases q1 with ⟨e1, q1⟩ | ⟨e1, q1⟩ <;> subst e1
              · skip
                refine lv_if_ne (tgt := 36) hx hb dX7_isInLine_31 (by decide) (fun _ => ?_) (fun z => by first | exact absurd z (by decide) | exact absurd (by decide) z)
                refine lv_iinc (v := (nI (y + 1))) (lv' := [(2, .int (nI (y + 1))), (0, .ref (wd 0)), (1, .int (nI x))]) hx hb dX7_isInLine_36 hl (k := 2) rfl (by rw [show Int32.ofInt 1 = nI 1 from by decide]; exact nI_add _ _) (by decide) rfl (fun ls hl => ?_)
                refine lv_goto (tgt := 11) hx hb dX7_isInLine_39 (by decide) ?_
                exact ih2 (y + 1) _ H locs ls (by omega) (by omega) (by omega) (fun b h1 h2 => by by_cases e : b = y; (subst e; exact q1); exact hp2 b h1 (by omega)) hwo hF hR (lv_sub hl [1, 2, 0] rfl)
              · skip
                refine lv_if_ne (tgt := 36) hx hb dX7_isInLine_31 (by decide) (fun z => by first | exact absurd z (by decide) | exact absurd (by decide) z) (fun _ => ?_)
                refine lv_iconst (v := nI 0) hx hb dX7_isInLine_34 (by decide) ?_
                exact mm_zret S hr hlocks (by decide) hR ⟨Or.inr ⟨rfl, fun z => q1 (z x y hxy (by omega))⟩, hF⟩ dX7_isInLine_35
        exact loop2 5 (x + 1) _ _ _ ls (by omega) (by omega) (by omega) (fun b h1 h2 => by omega) hwo hF hR (lv_sub hl [1, 2, 0] rfl)
  exact loop 5 0 _ _ _ ls (by omega) (by omega) (fun a b h1 h2 h3 => by omega) hwo hF hR (lv_sub hl [1, 0] rfl)

set_option maxHeartbeats 4000000 in
set_option maxRecDepth 100000 in
/-- greatest() -/
theorem c_X7_greatest (l : Launch) (G : mm_G) (M : mm_M) (sz : Nat) (wd : Nat → Nat) (st : Nat → Nat → Int32) (fc fl tn : Nat → Int32)  (hwo : woA G M wd st fc fl tn) : mm_q l yX7_greatest wsX7_greatest ({ frames := 2, cells := 0, slots := 0, locals := 60 } : Room) G ([.ref (wd 0)] : List Value) M sz (fun r M' => r = some (wd (7 + 2 * gr st)) ∧ mm_fr [] M M') := by
  refine mm_enter (cc := cX7_greatest) (maxL := 3) (ret := (some (.object "ForkWatch$Statement"))) _ (by decide) rfl (Nat.le_of_ble_eq_true rfl) ?_
  intro p0 e0 s m0 be0 me0 c0 ls S hr hlocks hname hA hC hR hl
  have hx := S.1
  have hb := S.2.1
  have hl : lv_has ls 3 [(0, .ref (wd 0))] := hl
  have inRX5 : ∀ w ∈ wsX50, w ∈ wsX7_greatest := by decide +kernel
  have inRX7 : ∀ w ∈ wsX70, w ∈ wsX7_greatest := by decide +kernel
  have hF : mm_fr [] M M := mm_fr.rf
  obtain ⟨hw0, ⟨tf, hw1, htf⟩, hst, hw2, hw3, hw4, hw5, hw6⟩ := id hwo
  refine lv_aload_n hx hb dX7_greatest_0 rfl (lv_at hl 0 rfl) ?_
  refine mm_get S hC hR (C := RX7) (T := TX7) (N := 3) (ref := "ForkWatch$World") (v := .ref (wd 1)) 0 hw0 inRX7 rfl (by decide) (by decide +kernel) (fun _ h9 => h9) rfl dX7_greatest_1 ?_
  refine lv_iconst (v := nI 0) hx hb dX7_greatest_4 (by decide) ?_
  refine mm_sald S hC hR hw1 (j := 0) (v := .ref (wd (7 + 2 * 0))) (by omega) (by omega) (by rw [htf _ (by omega)]; rfl) dX7_greatest_5 ?_
  refine lv_astore_n (lv' := [(1, .ref (wd (7 + 2 * 0))), (0, .ref (wd 0))]) hx hb dX7_greatest_6 rfl hl (by decide) rfl (fun ls hl => ?_)
  refine lv_iconst (v := nI 1) hx hb dX7_greatest_7 (by decide) ?_
  refine lv_istore_n (lv' := [(2, .int (nI 1)), (1, .ref (wd (7 + 2 * 0))), (0, .ref (wd 0))]) hx hb dX7_greatest_8 rfl hl (by decide) rfl (fun ls hl => ?_)
  have loop : ∀ (n x : Nat) (M1 : mm_M) (H : Heap) (locs : List Loc) (ls : Array Slot), 3 < x + n → x ≤ 3 → woA G M1 wd st fc fl tn → mm_fr [] M M1 → mm_R G s (mm_A M sz) M1 H locs → lv_has ls 3 [(0, .ref (wd 0)), (1, .ref (wd (7 + 2 * gr_go st x))), (2, .int (nI (x + 1)))] → W p0 l e0 ({ frames := 2, cells := 0, slots := 0, locals := 60 } : Room) s m0 ([.ref (wd 0)] : List Value).toArray be0 me0 c0 H locs 0 0 (MQ be0 (va_Qq (fun r M' => r = some (wd (7 + 2 * gr st)) ∧ mm_fr [] M M') (fun M' t => mm_H G (mm_A M sz) M' t.heap) (mm_A M sz)) ([.ref (wd 0)] : List Value).toArray s 0 0 (mm_A M sz)) (F0 m0 9 ls []) := by
    intro n
    induction n with
    | zero =>
      intro x M1 H locs ls hn hx4 hwo hF hR hl
      omega
    | succ n ih =>
      intro x M1 H locs ls hn hx4 hwo hF hR hl
      refine lv_iload_n hx hb dX7_greatest_9 rfl (lv_at hl 2 rfl) ?_
      refine lv_iconst (v := nI 4) hx hb dX7_greatest_10 (by decide) ?_
      refine lv_icmp_ge (tgt := 40) hx hb dX7_greatest_11 (by decide) (fun c7 => ?_) (fun c7 => ?_)
      · have c7 : 4 ≤ x + 1 := (nI_leI (a := 4) (b := x + 1) (by omega) (by omega)).mp c7
        have e3 : x = 3 := by omega
        subst e3
        refine lv_aload_n hx hb dX7_greatest_40 rfl (lv_at hl 1 rfl) ?_
        exact mm_aret (v := some (wd (7 + 2 * gr_go st 3))) S hr (Or.inl ⟨_, rfl⟩) hlocks hR ⟨rfl, hF⟩ dX7_greatest_41
      · have c7 : ¬ (4 ≤ x + 1) := fun z => c7 ((nI_leI (a := 4) (b := x + 1) (by omega) (by omega)).mpr z)
        have hg := gr_le st x
        obtain ⟨hw0, ⟨tf, hw1, htf⟩, hst, hw2, hw3, hw4, hw5, hw6⟩ := id hwo
        obtain ⟨k8a, k8b⟩ := hst (x + 1) (by omega)
        obtain ⟨k9a, k9b⟩ := hst (gr_go st x) (by omega)
        refine lv_aload_n hx hb dX7_greatest_14 rfl (lv_at hl 0 rfl) ?_
        refine mm_get S hC hR (C := RX7) (T := TX7) (N := 3) (ref := "ForkWatch$World") (v := .ref (wd 1)) 0 hw0 inRX7 rfl (by decide) (by decide +kernel) (fun _ h9 => h9) rfl dX7_greatest_15 ?_
        refine lv_iload_n hx hb dX7_greatest_18 rfl (lv_at hl 2 rfl) ?_
        refine mm_sald S hC hR hw1 (j := (x + 1)) (v := .ref (wd (7 + 2 * (x + 1)))) (by omega) (by omega) (by rw [htf _ (by omega)]; rfl) dX7_greatest_19 ?_
        refine lv_aload_n hx hb dX7_greatest_20 rfl (lv_at hl 1 rfl) ?_
        refine mm_calli hA hR (va_runV (As := [.ref (wd (7 + 2 * gr_go st x))]) (rest := []) S (c_X5_isNotAbove l G M1 _ _ _ _ _ (st (x + 1)) (st (gr_go st x)) k8a k8b k9a k9b) (cwV 1 S.2.2.2.2 gX7_greatest_X5_isNotAbove rfl rfl rfl (by decide +kernel) ⟨Nat.le_of_ble_eq_true rfl, Nat.le_of_ble_eq_true rfl⟩) (mm_preV hC hA hR _ k8a rfl) rfl rfl hl.1 rfl (lv_room (Nat.le_of_ble_eq_true rfl)) dX7_greatest_21 ⟨Nat.le_of_ble_eq_true rfl, Nat.le_of_ble_eq_true rfl⟩) (fun r10 M11 H locs hp hR => ?_)
        obtain ⟨q1, ff⟩ := hp
        have hwo := hwo.fr0 ff
        have hF := hF.tr ff mm_i0
        rcases q1 with ⟨e1, q1⟩ | ⟨e1, q1⟩ <;> subst e1
        · skip
          refine lv_if_ne (tgt := 34) hx hb dX7_greatest_24 (by decide) (fun _ => ?_) (fun z => by first | exact absurd z (by decide) | exact absurd (by decide) z)
          refine lv_iinc (v := (nI (x + 1 + 1))) (lv' := [(2, .int (nI (x + 1 + 1))), (0, .ref (wd 0)), (1, .ref (wd (7 + 2 * gr_go st x)))]) hx hb dX7_greatest_34 hl (k := 2) rfl (by rw [show Int32.ofInt 1 = nI 1 from by decide]; exact nI_add _ _) (by decide) rfl (fun ls hl => ?_)
          refine lv_goto (tgt := 9) hx hb dX7_greatest_37 (by decide) ?_
          exact ih (x + 1) _ H locs ls (by omega) (by omega) hwo hF hR (lv_sub hl [1, 2, 0] (by rw [gr_y q1]; rfl))
        · skip
          refine lv_if_ne (tgt := 34) hx hb dX7_greatest_24 (by decide) (fun z => by first | exact absurd z (by decide) | exact absurd (by decide) z) (fun _ => ?_)
          obtain ⟨hw0, ⟨tf, hw1, htf⟩, hst, hw2, hw3, hw4, hw5, hw6⟩ := id hwo
          refine lv_aload_n hx hb dX7_greatest_27 rfl (lv_at hl 0 rfl) ?_
          refine mm_get S hC hR (C := RX7) (T := TX7) (N := 3) (ref := "ForkWatch$World") (v := .ref (wd 1)) 0 hw0 inRX7 rfl (by decide) (by decide +kernel) (fun _ h9 => h9) rfl dX7_greatest_28 ?_
          refine lv_iload_n hx hb dX7_greatest_31 rfl (lv_at hl 2 rfl) ?_
          refine mm_sald S hC hR hw1 (j := (x + 1)) (v := .ref (wd (7 + 2 * (x + 1)))) (by omega) (by omega) (by rw [htf _ (by omega)]; rfl) dX7_greatest_32 ?_
          refine lv_astore_n (lv' := [(1, .ref (wd (7 + 2 * (x + 1)))), (0, .ref (wd 0)), (2, .int (nI (x + 1)))]) hx hb dX7_greatest_33 rfl hl (by decide) rfl (fun ls hl => ?_)
          refine lv_iinc (v := (nI (x + 1 + 1))) (lv' := [(2, .int (nI (x + 1 + 1))), (1, .ref (wd (7 + 2 * (x + 1)))), (0, .ref (wd 0))]) hx hb dX7_greatest_34 hl (k := 2) rfl (by rw [show Int32.ofInt 1 = nI 1 from by decide]; exact nI_add _ _) (by decide) rfl (fun ls hl => ?_)
          refine lv_goto (tgt := 9) hx hb dX7_greatest_37 (by decide) ?_
          exact ih (x + 1) _ H locs ls (by omega) (by omega) hwo hF hR (lv_sub hl [2, 1, 0] (by rw [gr_n q1]; rfl))
  exact loop 4 0 _ _ _ ls (by omega) (by omega) hwo hF hR (lv_sub hl [2, 1, 0] rfl)
