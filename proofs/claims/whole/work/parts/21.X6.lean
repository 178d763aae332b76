/-! ===== ForkWatch$Tree ===== -/
theorem dgb_ag {n : Nat} {m m' : Nat → Int32} (h : ∀ j, j < n → m j = m' j) : dgb n m = dgb n m' := by
  have e : padm n m = padm n m' := by
    funext j
    unfold padm
    by_cases hj : j < n
    · rw [if_pos hj, if_pos hj, h j hj]
    · rw [if_neg hj, if_neg hj]
  unfold dgb sha_d
  rw [e]
/-- what is digested of a file, of two nodes -/
def lmsg (fc : Nat → Int32) (f len : Nat) : Nat → Int32 := fun j => if j = 0 then nI 0 else if j = 1 then nI f else if j = 2 then nI len else fc (f * 12 + (j - 3))
def nmsg (tn : Nat → Int32) (n : Nat) : Nat → Int32 := fun j => if j = 0 then nI 1 else tn (64 * n + (j - 1))
def leafd (fc : Nat → Int32) (f len : Nat) : Nat → Int32 := dgb (3 + len) (lmsg fc f len)
def noded (tn : Nat → Int32) (n : Nat) : Nat → Int32 := dgb 65 (nmsg tn n)
def trA (G : mm_G) (M : mm_M) (T nd : Nat) (tn : Nat → Int32) : Prop := M T = some (ob 7 [.ref nd]) ∧ M nd = some (ia G 1024 tn)
/-- the leaves of which Q says so are right; the nodes of which P says so are what their two below come to -/
def trO (fc : Nat → Int32) (ln : Nat → Nat) (tn : Nat → Int32) (Q P : Nat → Prop) : Prop := (∀ f, f < 16 → Q f → ∀ j, j < 32 → tn ((16 + f) * 32 + j) = leafd fc f (ln f) j) ∧ ∀ n, 1 ≤ n → n < 16 → P n → ∀ j, j < 32 → tn (n * 32 + j) = noded tn n j
theorem trO.mono {fc : Nat → Int32} {ln : Nat → Nat} {tn : Nat → Int32} {Q P Q' P' : Nat → Prop} (h : trO fc ln tn Q P) (hq : ∀ f, f < 16 → Q' f → Q f) (hp : ∀ n, 1 ≤ n → n < 16 → P' n → P n) : trO fc ln tn Q' P' := ⟨fun f h1 h2 => h.1 f h1 (hq f h1 h2), fun n h1 h2 h3 => h.2 n h1 h2 (hp n h1 h2 h3)⟩
theorem cpy_at {d r : Nat → Int32} {a len j : Nat} (h : j < len) : va_cpy d r 0 a len (a + j) = d j := by
  unfold va_cpy
  rw [if_pos (by omega)]
  congr 1
  omega
theorem cpy_no {d r : Nat → Int32} {a len j : Nat} (h : j < a ∨ a + len ≤ j) : va_cpy d r 0 a len j = r j := by
  unfold va_cpy
  rw [if_neg (by omega)]
theorem noded_ag {tn tn' : Nat → Int32} {n : Nat} (h : ∀ j, j < 64 → tn (64 * n + j) = tn' (64 * n + j)) : noded tn n = noded tn' n := by
  refine dgb_ag (fun j hj => ?_)
  unfold nmsg
  by_cases h0 : j = 0
  · rw [if_pos h0, if_pos h0]
  · rw [if_neg h0, if_neg h0, h (j - 1) (by omega)]
/-- a leaf is set: it is right, its node above may be wrong -/
theorem trO_leaf {fc : Nat → Int32} {ln : Nat → Nat} {tn : Nat → Int32} {f : Nat} {Q P : Nat → Prop} (hf : f < 16) (h : trO fc ln tn Q P) : trO fc ln (va_cpy (leafd fc f (ln f)) tn 0 ((16 + f) * 32) 32) (fun g => g = f ∨ Q g) (fun n => P n ∧ n ≠ (16 + f) / 2) := by
  refine ⟨fun g hg hq j hj => ?_, fun n h1 h2 h3 j hj => ?_⟩
  · by_cases e : g = f
    · subst e
      exact cpy_at hj
    · rw [cpy_no (by omega)]
      exact h.1 g hg (hq.resolve_left e) j hj
  · rw [cpy_no (by omega), h.2 n h1 h2 h3.1 j hj]
    refine congrFun (noded_ag (fun i hi => ?_)) j
    rw [cpy_no (by have := h3.2; omega)]
/-- a node is set -/
theorem trO_node {fc : Nat → Int32} {ln : Nat → Nat} {tn : Nat → Int32} {c : Nat} {Q P : Nat → Prop} (h1 : 1 ≤ c) (h2 : c < 16) (h : trO fc ln tn Q P) : trO fc ln (va_cpy (noded tn c) tn 0 (c * 32) 32) Q (fun n => n = c ∨ (P n ∧ n ≠ c / 2)) := by
  refine ⟨fun g hg hq j hj => ?_, fun n g1 g2 g3 j hj => ?_⟩
  · rw [cpy_no (by omega)]
    exact h.1 g hg hq j hj
  · by_cases e : n = c
    · subst e
      rw [cpy_at hj]
      refine congrFun (noded_ag (fun i hi => ?_)) j
      rw [cpy_no (by omega)]
    · have g4 := g3.resolve_left e
      rw [cpy_no (by omega), h.2 n g1 g2 g4.1 j hj]
      refine congrFun (noded_ag (fun i hi => ?_)) j
      rw [cpy_no (by have := g4.2; omega)]

set_option maxHeartbeats 4000000 in
set_option maxRecDepth 100000 in
/-- Tree() -/
theorem c_X6_init (l : Launch) (G : mm_G) (M : mm_M) (sz : Nat) (T : Nat) (h5 : M T = some (ob 7 [.null]))  : mm_v l yX6_init wsX6_init ({ frames := 1, cells := 1, slots := 1024, locals := 12 } : Room) G ([.ref T] : List Value) M sz (fun M' => ∃ nd, M nd = none ∧ trA G M' T nd (fun _ => 0) ∧ mm_fr [T] M M') := by
  refine mm_enter (cc := cX6_init) (maxL := 1) (ret := none) _ (by decide) rfl (Nat.le_of_ble_eq_true rfl) ?_
  intro p0 e0 s m0 be0 me0 c0 ls S hr hlocks hname hA hC hR hl
  have hx := S.1
  have hb := S.2.1
  have hl : lv_has ls 1 [(0, .ref T)] := hl
  have hin : me0.name = "<init>" := hname
  have inRX6 : ∀ w ∈ wsX60, w ∈ wsX6_init := by decide +kernel
  have hF : mm_fr [T] M M := mm_fr.rf
  refine lv_aload_n hx hb dX6_init_0 rfl (lv_at hl 0 rfl) ?_
  refine W.objInit hx hb S.2.2.2.1 (S.2.2.2.2 (.methodLink RX6 3 objectInit) (by decide +kernel)) (S.2.2.2.2 (.instanceMethod objectInit) (by decide +kernel)) (S.2.2.2.2 (.code objectInit ⟨#[0xb1]⟩ 1 none) (by decide +kernel)) rfl (by rw [S.2.2.1]; exact hl.1) rfl dX6_init_1 (Nat.le_of_ble_eq_true rfl) (Nat.le_of_ble_eq_true rfl) ?_
  refine W.eq (g2 := F0 m0 4 ls []) rfl ?_
  refine lv_aload_n hx hb dX6_init_4 rfl (lv_at hl 0 rfl) ?_
  refine lv_sipush (v := nI 1024) hx hb dX6_init_5 (by decide) ?_
  refine mm_newi S hC hA hR (by decide +kernel) (n := 1024) (by omega) (Nat.le_of_ble_eq_true rfl) (Nat.le_of_ble_eq_true rfl) dX6_init_8 (fun nd H M1 z3 h6 f2 hR => ?_)
  have n_T_nd : T ≠ nd := mm_nenew h5 z3
  have nn_nd : M nd = none := hF.none z3 (mm_oc h5 mm_o0)
  have h5 := f2.at h5 mm_n0
  have h6 : M1 nd = some (ia G 1024 (fun _ => 0)) := h6
  have hF := hF.tr f2 mm_i0
  refine mm_putF S hC hR (C := RX6) (T := TX6) (N := 1) (ref := "ForkWatch$Tree") 0 h5 inRX6 rfl tyX6_ok nmX6 (by decide) (by decide +kernel) (fun _ h9 => h9) rfl hin rfl rfl rfl (Nat.le_of_ble_eq_true rfl) dX6_init_10 (fun H locs M4 g6 f5 hR => ?_)
  have h6 := f5.at h6 (mm_nc (Ne.symm n_T_nd) mm_n0)
  have h5 : M4 T = some (ob 7 [.ref nd]) := g6
  have hF := hF.tr f5 (mm_ic 0 rfl mm_i0)
  exact mm_vret S hr hlocks hR ⟨nd, nn_nd, ⟨h5, h6⟩, hF⟩ dX6_init_13

set_option maxHeartbeats 4000000 in
set_option maxRecDepth 100000 in
/-- become(other) -/
theorem c_X6_become (l : Launch) (G : mm_G) (M : mm_M) (sz : Nat) (T nd T' nd' : Nat) (tn tn' : Nat → Int32) (h5 : M T = some (ob 7 [.ref nd])) (h6 : M nd = some (ia G 1024 tn)) (h7 : M T' = some (ob 7 [.ref nd'])) (h8 : M nd' = some (ia G 1024 tn'))  : mm_v l yX6_become wsX6_become ({ frames := 1, cells := 0, slots := 0, locals := 30 } : Room) G ([.ref T, .ref T'] : List Value) M sz (fun M' => trA G M' T nd (va_cpy tn' tn 0 0 1024) ∧ mm_fr [nd] M M') := by
  refine mm_enter (cc := cX6_become) (maxL := 2) (ret := none) _ (by decide) rfl (Nat.le_of_ble_eq_true rfl) ?_
  intro p0 e0 s m0 be0 me0 c0 ls S hr hlocks hname hA hC hR hl
  have hx := S.1
  have hb := S.2.1
  have hl : lv_has ls 2 [(0, .ref T), (1, .ref T')] := hl
  have inRX6 : ∀ w ∈ wsX60, w ∈ wsX6_become := by decide +kernel
  have hF : mm_fr [nd] M M := mm_fr.rf
  refine lv_aload_n hx hb dX6_become_0 rfl (lv_at hl 1 rfl) ?_
  refine mm_get S hC hR (C := RX6) (T := TX6) (N := 1) (ref := "ForkWatch$Tree") (v := .ref nd') 0 h7 inRX6 rfl (by decide) (by decide +kernel) (fun _ h9 => h9) rfl dX6_become_1 ?_
  refine lv_iconst (v := nI 0) hx hb dX6_become_4 (by decide) ?_
  refine lv_aload_n hx hb dX6_become_5 rfl (lv_at hl 0 rfl) ?_
  refine mm_get S hC hR (C := RX6) (T := TX6) (N := 1) (ref := "ForkWatch$Tree") (v := .ref nd) 0 h5 inRX6 rfl (by decide) (by decide +kernel) (fun _ h9 => h9) rfl dX6_become_6 ?_
  refine lv_iconst (v := nI 0) hx hb dX6_become_9 (by decide) ?_
  refine lv_aload_n hx hb dX6_become_10 rfl (lv_at hl 0 rfl) ?_
  refine mm_get S hC hR (C := RX6) (T := TX6) (N := 1) (ref := "ForkWatch$Tree") (v := .ref nd) 0 h5 inRX6 rfl (by decide) (by decide +kernel) (fun _ h9 => h9) rfl dX6_become_11 ?_
  refine mm_ilen S hC hR h6 dX6_become_14 ?_
  refine mm_copy S hC hR hl.1 h8 h6 (by decide +kernel) (by decide +kernel) (by decide +kernel) (by decide +kernel) (sp := 0) (dp := 0) (n := 1024) (by omega) (by omega) (by omega) (by omega) (Nat.le_of_ble_eq_true rfl) (Nat.le_of_ble_eq_true rfl) dX6_become_15 (fun H locs M7 g9 f8 hR => ?_)
  have h5 := f8.at h5 (mm_nc (mm_neoi h5 h6) mm_n0)
  have h7 := f8.at h7 (mm_nc (mm_neoi h7 h6) mm_n0)
  have h6 : M7 nd = some (ia G 1024 (va_cpy tn' tn 0 0 1024)) := g9
  have hF := hF.tr f8 (mm_ic 0 rfl mm_i0)
  exact mm_vret S hr hlocks hR ⟨⟨h5, h6⟩, hF⟩ dX6_become_18

set_option maxHeartbeats 4000000 in
set_option maxRecDepth 100000 in
/-- copyRoot(row, at) -/
theorem c_X6_copyRoot (l : Launch) (G : mm_G) (M : mm_M) (sz : Nat) (T nd y k at_ : Nat) (tn r : Nat → Int32) (h5 : M T = some (ob 7 [.ref nd])) (h6 : M nd = some (ia G 1024 tn)) (h7 : M y = some (ia G k r)) (hk : at_ + 32 ≤ k) (hk2 : k < 2 ^ 31) (n1 : nd ≠ y) : mm_v l yX6_copyRoot wsX6_copyRoot ({ frames := 1, cells := 0, slots := 0, locals := 30 } : Room) G ([.ref T, .ref y, .int (nI at_)] : List Value) M sz (fun M' => M' y = some (ia G k (va_cpy tn r 32 at_ 32)) ∧ mm_fr [y] M M') := by
  refine mm_enter (cc := cX6_copyRoot) (maxL := 3) (ret := none) _ (by decide) rfl (Nat.le_of_ble_eq_true rfl) ?_
  intro p0 e0 s m0 be0 me0 c0 ls S hr hlocks hname hA hC hR hl
  have hx := S.1
  have hb := S.2.1
  have hl : lv_has ls 3 [(0, .ref T), (1, .ref y), (2, .int (nI at_))] := hl
  have inRX6 : ∀ w ∈ wsX60, w ∈ wsX6_copyRoot := by decide +kernel
  have hF : mm_fr [y] M M := mm_fr.rf
  refine lv_aload_n hx hb dX6_copyRoot_0 rfl (lv_at hl 0 rfl) ?_
  refine mm_get S hC hR (C := RX6) (T := TX6) (N := 1) (ref := "ForkWatch$Tree") (v := .ref nd) 0 h5 inRX6 rfl (by decide) (by decide +kernel) (fun _ h9 => h9) rfl dX6_copyRoot_1 ?_
  refine lv_bipush (v := nI 32) hx hb dX6_copyRoot_4 (by decide) ?_
  refine lv_aload_n hx hb dX6_copyRoot_6 rfl (lv_at hl 1 rfl) ?_
  refine lv_iload_n hx hb dX6_copyRoot_7 rfl (lv_at hl 2 rfl) ?_
  refine lv_bipush (v := nI 32) hx hb dX6_copyRoot_8 (by decide) ?_
  refine mm_copy S hC hR hl.1 h6 h7 (by decide +kernel) (by decide +kernel) (by decide +kernel) (by decide +kernel) (sp := 32) (dp := at_) (n := 32) (by omega) (by omega) (by omega) (by omega) (Nat.le_of_ble_eq_true rfl) (Nat.le_of_ble_eq_true rfl) dX6_copyRoot_10 (fun H locs M10 g12 f11 hR => ?_)
  have h5 := f11.at h5 (mm_nc (mm_neoi h5 h7) mm_n0)
  have h6 := f11.at h6 (mm_nc n1 mm_n0)
  have h7 : M10 y = some (ia G k (va_cpy tn r 32 at_ 32)) := g12
  have hF := hF.tr f11 (mm_ic 0 rfl mm_i0)
  exact mm_vret S hr hlocks hR ⟨h7, hF⟩ dX6_copyRoot_13

set_option maxHeartbeats 4000000 in
set_option maxRecDepth 100000 in
/-- hasRoot(row, at) -/
theorem c_X6_hasRoot (l : Launch) (G : mm_G) (M : mm_M) (sz : Nat) (T nd y k at_ : Nat) (tn r : Nat → Int32) (h5 : M T = some (ob 7 [.ref nd])) (h6 : M nd = some (ia G 1024 tn)) (h7 : M y = some (ia G k r)) (hk : at_ + 32 ≤ k) (hk2 : k < 2 ^ 31) : mm_i l yX6_hasRoot wsX6_hasRoot ({ frames := 1, cells := 0, slots := 0, locals := 40 } : Room) G ([.ref T, .ref y, .int (nI at_)] : List Value) M sz (fun x M' => bq x (∀ j, j < 32 → tn (32 + j) = r (at_ + j)) ∧ mm_fr [] M M') := by
  refine mm_enter (cc := cX6_hasRoot) (maxL := 3) (ret := (some .boolean)) _ (by decide) rfl (Nat.le_of_ble_eq_true rfl) ?_
  intro p0 e0 s m0 be0 me0 c0 ls S hr hlocks hname hA hC hR hl
  have hx := S.1
  have hb := S.2.1
  have hl : lv_has ls 3 [(0, .ref T), (1, .ref y), (2, .int (nI at_))] := hl
  have inRX6 : ∀ w ∈ wsX60, w ∈ wsX6_hasRoot := by decide +kernel
  have hF : mm_fr [] M M := mm_fr.rf
  refine lv_aload_n hx hb dX6_hasRoot_0 rfl (lv_at hl 0 rfl) ?_
  refine mm_get S hC hR (C := RX6) (T := TX6) (N := 1) (ref := "ForkWatch$Tree") (v := .ref nd) 0 h5 inRX6 rfl (by decide) (by decide +kernel) (fun _ h9 => h9) rfl dX6_hasRoot_1 ?_
  refine lv_bipush (v := nI 32) hx hb dX6_hasRoot_4 (by decide) ?_
  refine lv_aload_n hx hb dX6_hasRoot_6 rfl (lv_at hl 1 rfl) ?_
  refine lv_iload_n hx hb dX6_hasRoot_7 rfl (lv_at hl 2 rfl) ?_
  refine lv_bipush (v := nI 32) hx hb dX6_hasRoot_8 (by decide) ?_
  refine mm_calli hA hR (va_runSN (As := [.ref nd, .int (nI 32), .ref y, .int (nI at_), .int (nI 32)]) (rest := []) S (c_X8_sameRow l G M _ nd y 1024 k 32 at_ 32 tn r h6 h7 (by omega) (by omega) (by decide) hk2) ⟨va_cnB 5 S.2.2.2.2 gX6_hasRoot_X8_sameRow_n29 rfl rfl rfl (hC.2.2.2.2.2 (.methodLinkNest RX6 29 yX8_sameRow "ForkWatch") (by decide +kernel)) (S.2.2.2.2 (.initialized RX8) (by decide +kernel)) (by decide +kernel) ⟨Nat.le_of_ble_eq_true rfl, Nat.le_of_ble_eq_true rfl⟩, S.2.2.2.2 (.static yX8_sameRow) (by decide +kernel), trivial⟩ (mm_preS hC hA hR _) rfl rfl hl.1 rfl (lv_room (Nat.le_of_ble_eq_true rfl)) dX6_hasRoot_10 ⟨Nat.le_of_ble_eq_true rfl, Nat.le_of_ble_eq_true rfl⟩) (fun r13 M14 H locs hp hR => ?_)
  obtain ⟨q1, ff⟩ := hp
  have h5 := ff.at h5 mm_n0
  have h6 := ff.at h6 mm_n0
  have h7 := ff.at h7 mm_n0
  have hF := hF.tr ff mm_i0
  rcases q1 with ⟨e1, q1⟩ | ⟨e1, q1⟩ <;> subst e1
  · skip
    exact mm_zret S hr hlocks (by decide) hR ⟨Or.inl ⟨rfl, q1⟩, hF⟩ dX6_hasRoot_13
  · skip
    exact mm_zret S hr hlocks (by decide) hR ⟨Or.inr ⟨rfl, q1⟩, hF⟩ dX6_hasRoot_13

set_option maxHeartbeats 4000000 in
set_option maxRecDepth 100000 in
/-- setLeaf(files, file, sha) -/
theorem c_X6_setLeaf (l : Launch) (G : mm_G) (M : mm_M) (sz : Nat) (T nd F ca la h st w fi len : Nat) (tn fc fl : Nat → Int32) (a b : Int32) (f g : Nat → Int32) (h1 : M h = some (ob 5 [.ref st, .ref w, .int a, .int b])) (h2 : M st = some (ia G 8 f)) (h3 : M w = some (ia G 64 g)) (h5 : M T = some (ob 7 [.ref nd])) (h6 : M nd = some (ia G 1024 tn)) (h7 : M F = some (ob 1 [.ref ca, .ref la])) (h8 : M ca = some (ia G 192 fc)) (h9 : M la = some (ia G 16 fl)) (hfi : fi < 16) (hlen : len ≤ 12) (el : fl fi = nI len) : mm_v l yX6_setLeaf wsX6_setLeaf ({ frames := 3, cells := 0, slots := 0, locals := 110 } : Room) G ([.ref T, .ref F, .int (nI fi), .ref h] : List Value) M sz (fun M' => M' nd = some (ia G 1024 (va_cpy (leafd fc fi len) tn 0 ((16 + fi) * 32) 32)) ∧ shJ G M' h st w ∧ mm_fr [h, st, w, nd] M M') := by
  refine mm_enter (cc := cX6_setLeaf) (maxL := 4) (ret := none) _ (by decide) rfl (Nat.le_of_ble_eq_true rfl) ?_
  intro p0 e0 s m0 be0 me0 c0 ls S hr hlocks hname hA hC hR hl
  have hx := S.1
  have hb := S.2.1
  have hl : lv_has ls 4 [(0, .ref T), (1, .ref F), (2, .int (nI fi)), (3, .ref h)] := hl
  have inRX0 : ∀ w ∈ wsX00, w ∈ wsX6_setLeaf := by decide +kernel
  have inRX4 : ∀ w ∈ wsX40, w ∈ wsX6_setLeaf := by decide +kernel
  have inRX6 : ∀ w ∈ wsX60, w ∈ wsX6_setLeaf := by decide +kernel
  have hF : mm_fr [h, st, w, nd] M M := mm_fr.rf
  have d_nd_st : nd ≠ st := mm_nelen h6 h2 (by decide)
  have d_nd_w : nd ≠ w := mm_nelen h6 h3 (by decide)
  have d_ca_st : ca ≠ st := mm_nelen h8 h2 (by decide)
  have d_ca_w : ca ≠ w := mm_nelen h8 h3 (by decide)
  refine lv_aload_n hx hb dX6_setLeaf_0 rfl (lv_at hl 3 rfl) ?_
  refine mm_callv hA hR (va_runV (As := []) (rest := []) S (c_X4_start l G M _ h st w _ _ _ _ h1 h2 h3) (cwV 0 S.2.2.2.2 gX6_setLeaf_X4_start rfl rfl rfl (by decide +kernel) ⟨Nat.le_of_ble_eq_true rfl, Nat.le_of_ble_eq_true rfl⟩) (mm_preV hC hA hR _ h1 rfl) rfl rfl hl.1 rfl (lv_room (Nat.le_of_ble_eq_true rfl)) dX6_setLeaf_1 ⟨Nat.le_of_ble_eq_true rfl, Nat.le_of_ble_eq_true rfl⟩) (fun M16 H locs hp hR => ?_)
  obtain ⟨q0, eq0⟩ : ∃ z : ShS, z = (va_cpy k_begin f 0 0 8, g, 0) := ⟨_, rfl⟩
  have i0 : shI (padm (3 + len) (lmsg fc fi len)) 0 q0 := by rw [eq0]; exact shI_0
  rw [← eq0] at hp
  obtain ⟨⟨a1, a2, a3, l0⟩, ff⟩ := hp
  have h5 := ff.at h5 (mm_nc (mm_neoo h5 h1 (by decide)) (mm_nc (mm_neoi h5 h2) (mm_nc (mm_neoi h5 h3) mm_n0)))
  have h6 := ff.at h6 (mm_nc (Ne.symm (mm_neoi h1 h6)) (mm_nc d_nd_st (mm_nc d_nd_w mm_n0)))
  have h7 := ff.at h7 (mm_nc (mm_neoo h7 h1 (by decide)) (mm_nc (mm_neoi h7 h2) (mm_nc (mm_neoi h7 h3) mm_n0)))
  have h8 := ff.at h8 (mm_nc (Ne.symm (mm_neoi h1 h8)) (mm_nc d_ca_st (mm_nc d_ca_w mm_n0)))
  have h9 := ff.at h9 (mm_nc (Ne.symm (mm_neoi h1 h9)) (mm_nc (mm_nelen h9 h2 (by decide)) (mm_nc (mm_nelen h9 h3 (by decide)) mm_n0)))
  have h1 : M16 h = some (ob 5 [.ref st, .ref w, .int (nI q0.2.2), .int (nI 0)]) := a1
  have h2 : M16 st = some (ia G 8 q0.1) := a2
  have h3 : M16 w = some (ia G 64 q0.2.1) := a3
  have hF := hF.tr ff (mm_ic 0 rfl (mm_ic 1 rfl (mm_ic 2 rfl mm_i0)))
  refine lv_aload_n hx hb dX6_setLeaf_4 rfl (lv_at hl 3 rfl) ?_
  refine lv_iconst (v := nI 0) hx hb dX6_setLeaf_5 (by decide) ?_
  refine mm_callv hA hR (va_runV (As := [.int (nI 0)]) (rest := []) S (c_X4_take l G M16 _ h st w q0 0 (nI 0) h1 h2 h3 l0) (cwV 1 S.2.2.2.2 gX6_setLeaf_X4_take rfl rfl rfl (by decide +kernel) ⟨Nat.le_of_ble_eq_true rfl, Nat.le_of_ble_eq_true rfl⟩) (mm_preV hC hA hR _ h1 rfl) rfl rfl hl.1 rfl (lv_room (Nat.le_of_ble_eq_true rfl)) dX6_setLeaf_6 ⟨Nat.le_of_ble_eq_true rfl, Nat.le_of_ble_eq_true rfl⟩) (fun M18 H locs hp hR => ?_)
  obtain ⟨q1, eq1⟩ : ∃ z : ShS, z = sh_take q0 (nI 0) := ⟨_, rfl⟩
  have i1 := shI_s i0
  rw [show (padm (3 + len) (lmsg fc fi len)) 0 = nI 0 from by rw [padm_lt (by omega)]; rfl, ← eq1] at i1
  rw [← eq1] at hp
  obtain ⟨⟨a1, a2, a3, l1⟩, ff⟩ := hp
  have h5 := ff.at h5 (mm_nc (mm_neoo h5 h1 (by decide)) (mm_nc (mm_neoi h5 h2) (mm_nc (mm_neoi h5 h3) mm_n0)))
  have h6 := ff.at h6 (mm_nc (Ne.symm (mm_neoi h1 h6)) (mm_nc d_nd_st (mm_nc d_nd_w mm_n0)))
  have h7 := ff.at h7 (mm_nc (mm_neoo h7 h1 (by decide)) (mm_nc (mm_neoi h7 h2) (mm_nc (mm_neoi h7 h3) mm_n0)))
  have h8 := ff.at h8 (mm_nc (Ne.symm (mm_neoi h1 h8)) (mm_nc d_ca_st (mm_nc d_ca_w mm_n0)))
  have h9 := ff.at h9 (mm_nc (Ne.symm (mm_neoi h1 h9)) (mm_nc (mm_nelen h9 h2 (by decide)) (mm_nc (mm_nelen h9 h3 (by decide)) mm_n0)))
  have h1 : M18 h = some (ob 5 [.ref st, .ref w, .int (nI q1.2.2), .int (nI (0 + 1))]) := a1
  have h2 : M18 st = some (ia G 8 q1.1) := a2
  have h3 : M18 w = some (ia G 64 q1.2.1) := a3
  have hF := hF.tr ff (mm_ic 0 rfl (mm_ic 1 rfl (mm_ic 2 rfl mm_i0)))
  refine lv_aload_n hx hb dX6_setLeaf_9 rfl (lv_at hl 3 rfl) ?_
  refine lv_iload_n hx hb dX6_setLeaf_10 rfl (lv_at hl 2 rfl) ?_
  refine mm_callv hA hR (va_runV (As := [.int (nI fi)]) (rest := []) S (c_X4_take l G M18 _ h st w q1 1 (nI fi) h1 h2 h3 l1) (cwV 1 S.2.2.2.2 gX6_setLeaf_X4_take rfl rfl rfl (by decide +kernel) ⟨Nat.le_of_ble_eq_true rfl, Nat.le_of_ble_eq_true rfl⟩) (mm_preV hC hA hR _ h1 rfl) rfl rfl hl.1 rfl (lv_room (Nat.le_of_ble_eq_true rfl)) dX6_setLeaf_11 ⟨Nat.le_of_ble_eq_true rfl, Nat.le_of_ble_eq_true rfl⟩) (fun M20 H locs hp hR => ?_)
  obtain ⟨q2, eq2⟩ : ∃ z : ShS, z = sh_take q1 (nI fi) := ⟨_, rfl⟩
  have i2 := shI_s i1
  rw [show (padm (3 + len) (lmsg fc fi len)) (0 + 1) = nI fi from by rw [padm_lt (by omega)]; rfl, ← eq2] at i2
  rw [← eq2] at hp
  obtain ⟨⟨a1, a2, a3, l2⟩, ff⟩ := hp
  have h5 := ff.at h5 (mm_nc (mm_neoo h5 h1 (by decide)) (mm_nc (mm_neoi h5 h2) (mm_nc (mm_neoi h5 h3) mm_n0)))
  have h6 := ff.at h6 (mm_nc (Ne.symm (mm_neoi h1 h6)) (mm_nc d_nd_st (mm_nc d_nd_w mm_n0)))
  have h7 := ff.at h7 (mm_nc (mm_neoo h7 h1 (by decide)) (mm_nc (mm_neoi h7 h2) (mm_nc (mm_neoi h7 h3) mm_n0)))
  have h8 := ff.at h8 (mm_nc (Ne.symm (mm_neoi h1 h8)) (mm_nc d_ca_st (mm_nc d_ca_w mm_n0)))
  have h9 := ff.at h9 (mm_nc (Ne.symm (mm_neoi h1 h9)) (mm_nc (mm_nelen h9 h2 (by decide)) (mm_nc (mm_nelen h9 h3 (by decide)) mm_n0)))
  have h1 : M20 h = some (ob 5 [.ref st, .ref w, .int (nI q2.2.2), .int (nI (1 + 1))]) := a1
  have h2 : M20 st = some (ia G 8 q2.1) := a2
  have h3 : M20 w = some (ia G 64 q2.2.1) := a3
  have hF := hF.tr ff (mm_ic 0 rfl (mm_ic 1 rfl (mm_ic 2 rfl mm_i0)))
  refine lv_aload_n hx hb dX6_setLeaf_14 rfl (lv_at hl 3 rfl) ?_
  refine lv_aload_n hx hb dX6_setLeaf_15 rfl (lv_at hl 1 rfl) ?_
  refine mm_get S hC hR (C := RX0) (T := TX0) (N := 2) (ref := "ForkWatch$Files") (v := .ref la) 1 h7 inRX0 rfl (by decide) (by decide +kernel) (fun _ h9 => h9) rfl dX6_setLeaf_16 ?_
  refine lv_iload_n hx hb dX6_setLeaf_19 rfl (lv_at hl 2 rfl) ?_
  refine mm_iald S hC hR h9 (j := fi) (by omega) (by omega) dX6_setLeaf_20 ?_
  refine mm_eqi el ?_
  refine mm_callv hA hR (va_runV (As := [.int (nI len)]) (rest := []) S (c_X4_take l G M20 _ h st w q2 2 (nI len) h1 h2 h3 l2) (cwV 1 S.2.2.2.2 gX6_setLeaf_X4_take rfl rfl rfl (by decide +kernel) ⟨Nat.le_of_ble_eq_true rfl, Nat.le_of_ble_eq_true rfl⟩) (mm_preV hC hA hR _ h1 rfl) rfl rfl hl.1 rfl (lv_room (Nat.le_of_ble_eq_true rfl)) dX6_setLeaf_21 ⟨Nat.le_of_ble_eq_true rfl, Nat.le_of_ble_eq_true rfl⟩) (fun M22 H locs hp hR => ?_)
  obtain ⟨q3, eq3⟩ : ∃ z : ShS, z = sh_take q2 (nI len) := ⟨_, rfl⟩
  have i3 := shI_s i2
  rw [show (padm (3 + len) (lmsg fc fi len)) (0 + 1 + 1) = nI len from by rw [padm_lt (by omega)]; rfl, ← eq3] at i3
  rw [← eq3] at hp
  obtain ⟨⟨a1, a2, a3, l3⟩, ff⟩ := hp
  have h5 := ff.at h5 (mm_nc (mm_neoo h5 h1 (by decide)) (mm_nc (mm_neoi h5 h2) (mm_nc (mm_neoi h5 h3) mm_n0)))
  have h6 := ff.at h6 (mm_nc (Ne.symm (mm_neoi h1 h6)) (mm_nc d_nd_st (mm_nc d_nd_w mm_n0)))
  have h7 := ff.at h7 (mm_nc (mm_neoo h7 h1 (by decide)) (mm_nc (mm_neoi h7 h2) (mm_nc (mm_neoi h7 h3) mm_n0)))
  have h8 := ff.at h8 (mm_nc (Ne.symm (mm_neoi h1 h8)) (mm_nc d_ca_st (mm_nc d_ca_w mm_n0)))
  have h9 := ff.at h9 (mm_nc (Ne.symm (mm_neoi h1 h9)) (mm_nc (mm_nelen h9 h2 (by decide)) (mm_nc (mm_nelen h9 h3 (by decide)) mm_n0)))
  have h1 : M22 h = some (ob 5 [.ref st, .ref w, .int (nI q3.2.2), .int (nI (2 + 1))]) := a1
  have h2 : M22 st = some (ia G 8 q3.1) := a2
  have h3 : M22 w = some (ia G 64 q3.2.1) := a3
  have hF := hF.tr ff (mm_ic 0 rfl (mm_ic 1 rfl (mm_ic 2 rfl mm_i0)))
  refine lv_aload_n hx hb dX6_setLeaf_24 rfl (lv_at hl 3 rfl) ?_
  refine lv_aload_n hx hb dX6_setLeaf_25 rfl (lv_at hl 1 rfl) ?_
  refine mm_get S hC hR (C := RX0) (T := TX0) (N := 2) (ref := "ForkWatch$Files") (v := .ref ca) 0 h7 inRX0 rfl (by decide) (by decide +kernel) (fun _ h9 => h9) rfl dX6_setLeaf_26 ?_
  refine lv_iload_n hx hb dX6_setLeaf_29 rfl (lv_at hl 2 rfl) ?_
  refine lv_bipush (v := nI 12) hx hb dX6_setLeaf_30 (by decide) ?_
  refine lv_imul hx hb dX6_setLeaf_32 ?_
  refine mm_eqi (pk_mul _ _) ?_
  refine lv_aload_n hx hb dX6_setLeaf_33 rfl (lv_at hl 1 rfl) ?_
  refine mm_get S hC hR (C := RX0) (T := TX0) (N := 2) (ref := "ForkWatch$Files") (v := .ref la) 1 h7 inRX0 rfl (by decide) (by decide +kernel) (fun _ h9 => h9) rfl dX6_setLeaf_34 ?_
  refine lv_iload_n hx hb dX6_setLeaf_37 rfl (lv_at hl 2 rfl) ?_
  refine mm_iald S hC hR h9 (j := fi) (by omega) (by omega) dX6_setLeaf_38 ?_
  refine mm_eqi el ?_
  refine mm_callv hA hR (va_runV (As := [.ref ca, .int (nI (fi * 12)), .int (nI len)]) (rest := []) S (c_X4_takeRow l G M22 _ h st w ca 192 q3 3 (fi * 12) len fc h1 h2 h3 h8 l3 (by omega) (by decide) d_ca_st d_ca_w) (cwV 3 S.2.2.2.2 gX6_setLeaf_X4_takeRow rfl rfl rfl (by decide +kernel) ⟨Nat.le_of_ble_eq_true rfl, Nat.le_of_ble_eq_true rfl⟩) (mm_preV hC hA hR _ h1 rfl) rfl rfl hl.1 rfl (lv_room (Nat.le_of_ble_eq_true rfl)) dX6_setLeaf_39 ⟨Nat.le_of_ble_eq_true rfl, Nat.le_of_ble_eq_true rfl⟩) (fun M24 H locs hp hR => ?_)
  have i4 := shI_n (r := fun j => fc (fi * 12 + j)) i3 len (fun j hj => by rw [padm_lt (by omega)]; unfold lmsg; rw [if_neg (by omega), if_neg (by omega), if_neg (by omega)]; congr 1; omega)
  obtain ⟨q4, eq4⟩ : ∃ z : ShS, z = sh_takes q3 (fun j => fc (fi * 12 + j)) len := ⟨_, rfl⟩
  rw [← eq4] at i4 hp
  obtain ⟨⟨a1, a2, a3, l4⟩, ff⟩ := hp
  have h5 := ff.at h5 (mm_nc (mm_neoo h5 h1 (by decide)) (mm_nc (mm_neoi h5 h2) (mm_nc (mm_neoi h5 h3) mm_n0)))
  have h6 := ff.at h6 (mm_nc (Ne.symm (mm_neoi h1 h6)) (mm_nc d_nd_st (mm_nc d_nd_w mm_n0)))
  have h7 := ff.at h7 (mm_nc (mm_neoo h7 h1 (by decide)) (mm_nc (mm_neoi h7 h2) (mm_nc (mm_neoi h7 h3) mm_n0)))
  have h8 := ff.at h8 (mm_nc (Ne.symm (mm_neoi h1 h8)) (mm_nc d_ca_st (mm_nc d_ca_w mm_n0)))
  have h9 := ff.at h9 (mm_nc (Ne.symm (mm_neoi h1 h9)) (mm_nc (mm_nelen h9 h2 (by decide)) (mm_nc (mm_nelen h9 h3 (by decide)) mm_n0)))
  have h1 : M24 h = some (ob 5 [.ref st, .ref w, .int (nI q4.2.2), .int (nI (3 + len))]) := a1
  have h2 : M24 st = some (ia G 8 q4.1) := a2
  have h3 : M24 w = some (ia G 64 q4.2.1) := a3
  have hF := hF.tr ff (mm_ic 0 rfl (mm_ic 1 rfl (mm_ic 2 rfl mm_i0)))
  refine lv_aload_n hx hb dX6_setLeaf_42 rfl (lv_at hl 3 rfl) ?_
  refine lv_aload_n hx hb dX6_setLeaf_43 rfl (lv_at hl 0 rfl) ?_
  refine mm_get S hC hR (C := RX6) (T := TX6) (N := 1) (ref := "ForkWatch$Tree") (v := .ref nd) 0 h5 inRX6 rfl (by decide) (by decide +kernel) (fun _ h9 => h9) rfl dX6_setLeaf_44 ?_
  refine lv_bipush (v := nI 16) hx hb dX6_setLeaf_47 (by decide) ?_
  refine lv_iload_n hx hb dX6_setLeaf_49 rfl (lv_at hl 2 rfl) ?_
  refine lv_iadd hx hb dX6_setLeaf_50 ?_
  refine mm_eqi (nI_add _ _) ?_
  refine lv_bipush (v := nI 32) hx hb dX6_setLeaf_51 (by decide) ?_
  refine lv_imul hx hb dX6_setLeaf_53 ?_
  refine mm_eqi (pk_mul _ _) ?_
  refine mm_callv hA hR (va_runV (As := [.ref nd, .int (nI ((16 + fi) * 32))]) (rest := []) S (c_X4_finish l G M24 _ h st w nd 1024 q4 (3 + len) ((16 + fi) * 32) tn h1 h2 h3 h6 l4 (by omega) (by decide) d_nd_st d_nd_w) (cwV 2 S.2.2.2.2 gX6_setLeaf_X4_finish rfl rfl rfl (by decide +kernel) ⟨Nat.le_of_ble_eq_true rfl, Nat.le_of_ble_eq_true rfl⟩) (mm_preV hC hA hR _ h1 rfl) rfl rfl hl.1 rfl (lv_room (Nat.le_of_ble_eq_true rfl)) dX6_setLeaf_54 ⟨Nat.le_of_ble_eq_true rfl, Nat.le_of_ble_eq_true rfl⟩) (fun M26 H locs hp hR => ?_)
  obtain ⟨e6, ej, ff⟩ := hp
  rw [dg_I i4] at e6
  obtain ⟨f2, g2, y2, z2, e1, e2, e3⟩ := id ej
  have h6 : M26 nd = some (ia G 1024 (va_cpy (leafd fc fi len) tn 0 ((16 + fi) * 32) 32)) := e6
  have hF := hF.tr ff (mm_ic 0 rfl (mm_ic 1 rfl (mm_ic 2 rfl (mm_ic 3 rfl mm_i0))))
  exact mm_vret S hr hlocks hR ⟨h6, ej, hF⟩ dX6_setLeaf_57

set_option maxHeartbeats 4000000 in
set_option maxRecDepth 100000 in
/-- setNode(n, sha) -/
theorem c_X6_setNode (l : Launch) (G : mm_G) (M : mm_M) (sz : Nat) (T nd h st w n : Nat) (tn : Nat → Int32) (a b : Int32) (f g : Nat → Int32) (h1 : M h = some (ob 5 [.ref st, .ref w, .int a, .int b])) (h2 : M st = some (ia G 8 f)) (h3 : M w = some (ia G 64 g)) (h5 : M T = some (ob 7 [.ref nd])) (h6 : M nd = some (ia G 1024 tn)) (hn1 : 1 ≤ n) (hn2 : n < 16) : mm_v l yX6_setNode wsX6_setNode ({ frames := 3, cells := 0, slots := 0, locals := 110 } : Room) G ([.ref T, .int (nI n), .ref h] : List Value) M sz (fun M' => M' nd = some (ia G 1024 (va_cpy (noded tn n) tn 0 (n * 32) 32)) ∧ shJ G M' h st w ∧ mm_fr [h, st, w, nd] M M') := by
  refine mm_enter (cc := cX6_setNode) (maxL := 3) (ret := none) _ (by decide) rfl (Nat.le_of_ble_eq_true rfl) ?_
  intro p0 e0 s m0 be0 me0 c0 ls S hr hlocks hname hA hC hR hl
  have hx := S.1
  have hb := S.2.1
  have hl : lv_has ls 3 [(0, .ref T), (1, .int (nI n)), (2, .ref h)] := hl
  have inRX4 : ∀ w ∈ wsX40, w ∈ wsX6_setNode := by decide +kernel
  have inRX6 : ∀ w ∈ wsX60, w ∈ wsX6_setNode := by decide +kernel
  have hF : mm_fr [h, st, w, nd] M M := mm_fr.rf
  have d_nd_st : nd ≠ st := mm_nelen h6 h2 (by decide)
  have d_nd_w : nd ≠ w := mm_nelen h6 h3 (by decide)
  refine lv_aload_n hx hb dX6_setNode_0 rfl (lv_at hl 2 rfl) ?_
  refine mm_callv hA hR (va_runV (As := []) (rest := []) S (c_X4_start l G M _ h st w _ _ _ _ h1 h2 h3) (cwV 0 S.2.2.2.2 gX6_setNode_X4_start rfl rfl rfl (by decide +kernel) ⟨Nat.le_of_ble_eq_true rfl, Nat.le_of_ble_eq_true rfl⟩) (mm_preV hC hA hR _ h1 rfl) rfl rfl hl.1 rfl (lv_room (Nat.le_of_ble_eq_true rfl)) dX6_setNode_1 ⟨Nat.le_of_ble_eq_true rfl, Nat.le_of_ble_eq_true rfl⟩) (fun M28 H locs hp hR => ?_)
  obtain ⟨q0, eq0⟩ : ∃ z : ShS, z = (va_cpy k_begin f 0 0 8, g, 0) := ⟨_, rfl⟩
  have i0 : shI (padm 65 (nmsg tn n)) 0 q0 := by rw [eq0]; exact shI_0
  rw [← eq0] at hp
  obtain ⟨⟨a1, a2, a3, l0⟩, ff⟩ := hp
  have h5 := ff.at h5 (mm_nc (mm_neoo h5 h1 (by decide)) (mm_nc (mm_neoi h5 h2) (mm_nc (mm_neoi h5 h3) mm_n0)))
  have h6 := ff.at h6 (mm_nc (Ne.symm (mm_neoi h1 h6)) (mm_nc d_nd_st (mm_nc d_nd_w mm_n0)))
  have h1 : M28 h = some (ob 5 [.ref st, .ref w, .int (nI q0.2.2), .int (nI 0)]) := a1
  have h2 : M28 st = some (ia G 8 q0.1) := a2
  have h3 : M28 w = some (ia G 64 q0.2.1) := a3
  have hF := hF.tr ff (mm_ic 0 rfl (mm_ic 1 rfl (mm_ic 2 rfl mm_i0)))
  refine lv_aload_n hx hb dX6_setNode_4 rfl (lv_at hl 2 rfl) ?_
  refine lv_iconst (v := nI 1) hx hb dX6_setNode_5 (by decide) ?_
  refine mm_callv hA hR (va_runV (As := [.int (nI 1)]) (rest := []) S (c_X4_take l G M28 _ h st w q0 0 (nI 1) h1 h2 h3 l0) (cwV 1 S.2.2.2.2 gX6_setNode_X4_take rfl rfl rfl (by decide +kernel) ⟨Nat.le_of_ble_eq_true rfl, Nat.le_of_ble_eq_true rfl⟩) (mm_preV hC hA hR _ h1 rfl) rfl rfl hl.1 rfl (lv_room (Nat.le_of_ble_eq_true rfl)) dX6_setNode_6 ⟨Nat.le_of_ble_eq_true rfl, Nat.le_of_ble_eq_true rfl⟩) (fun M30 H locs hp hR => ?_)
  obtain ⟨q1, eq1⟩ : ∃ z : ShS, z = sh_take q0 (nI 1) := ⟨_, rfl⟩
  have i1 := shI_s i0
  rw [show (padm 65 (nmsg tn n)) 0 = nI 1 from by rw [padm_lt (by omega)]; rfl, ← eq1] at i1
  rw [← eq1] at hp
  obtain ⟨⟨a1, a2, a3, l1⟩, ff⟩ := hp
  have h5 := ff.at h5 (mm_nc (mm_neoo h5 h1 (by decide)) (mm_nc (mm_neoi h5 h2) (mm_nc (mm_neoi h5 h3) mm_n0)))
  have h6 := ff.at h6 (mm_nc (Ne.symm (mm_neoi h1 h6)) (mm_nc d_nd_st (mm_nc d_nd_w mm_n0)))
  have h1 : M30 h = some (ob 5 [.ref st, .ref w, .int (nI q1.2.2), .int (nI (0 + 1))]) := a1
  have h2 : M30 st = some (ia G 8 q1.1) := a2
  have h3 : M30 w = some (ia G 64 q1.2.1) := a3
  have hF := hF.tr ff (mm_ic 0 rfl (mm_ic 1 rfl (mm_ic 2 rfl mm_i0)))
  refine lv_aload_n hx hb dX6_setNode_9 rfl (lv_at hl 2 rfl) ?_
  refine lv_aload_n hx hb dX6_setNode_10 rfl (lv_at hl 0 rfl) ?_
  refine mm_get S hC hR (C := RX6) (T := TX6) (N := 1) (ref := "ForkWatch$Tree") (v := .ref nd) 0 h5 inRX6 rfl (by decide) (by decide +kernel) (fun _ h9 => h9) rfl dX6_setNode_11 ?_
  refine lv_iconst (v := nI 2) hx hb dX6_setNode_14 (by decide) ?_
  refine lv_iload_n hx hb dX6_setNode_15 rfl (lv_at hl 1 rfl) ?_
  refine lv_imul hx hb dX6_setNode_16 ?_
  refine mm_eqi (pk_mul _ _) ?_
  refine lv_bipush (v := nI 32) hx hb dX6_setNode_17 (by decide) ?_
  refine lv_imul hx hb dX6_setNode_19 ?_
  refine mm_eqi (pk_mul _ _) ?_
  refine mm_eqi (congrArg nI (show (2 * n) * 32 = 64 * n by omega)) ?_
  refine lv_bipush (v := nI 64) hx hb dX6_setNode_20 (by decide) ?_
  refine mm_callv hA hR (va_runV (As := [.ref nd, .int (nI (64 * n)), .int (nI 64)]) (rest := []) S (c_X4_takeRow l G M30 _ h st w nd 1024 q1 1 (64 * n) 64 tn h1 h2 h3 h6 l1 (by omega) (by decide) d_nd_st d_nd_w) (cwV 3 S.2.2.2.2 gX6_setNode_X4_takeRow rfl rfl rfl (by decide +kernel) ⟨Nat.le_of_ble_eq_true rfl, Nat.le_of_ble_eq_true rfl⟩) (mm_preV hC hA hR _ h1 rfl) rfl rfl hl.1 rfl (lv_room (Nat.le_of_ble_eq_true rfl)) dX6_setNode_22 ⟨Nat.le_of_ble_eq_true rfl, Nat.le_of_ble_eq_true rfl⟩) (fun M32 H locs hp hR => ?_)
  have i2 := shI_n (r := fun j => tn (64 * n + j)) i1 64 (fun j hj => by rw [padm_lt (by omega)]; unfold nmsg; rw [if_neg (by omega)]; congr 1; omega)
  obtain ⟨q2, eq2⟩ : ∃ z : ShS, z = sh_takes q1 (fun j => tn (64 * n + j)) 64 := ⟨_, rfl⟩
  rw [← eq2] at i2 hp
  obtain ⟨⟨a1, a2, a3, l2⟩, ff⟩ := hp
  have h5 := ff.at h5 (mm_nc (mm_neoo h5 h1 (by decide)) (mm_nc (mm_neoi h5 h2) (mm_nc (mm_neoi h5 h3) mm_n0)))
  have h6 := ff.at h6 (mm_nc (Ne.symm (mm_neoi h1 h6)) (mm_nc d_nd_st (mm_nc d_nd_w mm_n0)))
  have h1 : M32 h = some (ob 5 [.ref st, .ref w, .int (nI q2.2.2), .int (nI (1 + 64))]) := a1
  have h2 : M32 st = some (ia G 8 q2.1) := a2
  have h3 : M32 w = some (ia G 64 q2.2.1) := a3
  have hF := hF.tr ff (mm_ic 0 rfl (mm_ic 1 rfl (mm_ic 2 rfl mm_i0)))
  refine lv_aload_n hx hb dX6_setNode_25 rfl (lv_at hl 2 rfl) ?_
  refine lv_aload_n hx hb dX6_setNode_26 rfl (lv_at hl 0 rfl) ?_
  refine mm_get S hC hR (C := RX6) (T := TX6) (N := 1) (ref := "ForkWatch$Tree") (v := .ref nd) 0 h5 inRX6 rfl (by decide) (by decide +kernel) (fun _ h9 => h9) rfl dX6_setNode_27 ?_
  refine lv_iload_n hx hb dX6_setNode_30 rfl (lv_at hl 1 rfl) ?_
  refine lv_bipush (v := nI 32) hx hb dX6_setNode_31 (by decide) ?_
  refine lv_imul hx hb dX6_setNode_33 ?_
  refine mm_eqi (pk_mul _ _) ?_
  refine mm_callv hA hR (va_runV (As := [.ref nd, .int (nI (n * 32))]) (rest := []) S (c_X4_finish l G M32 _ h st w nd 1024 q2 65 (n * 32) tn h1 h2 h3 h6 l2 (by omega) (by decide) d_nd_st d_nd_w) (cwV 2 S.2.2.2.2 gX6_setNode_X4_finish rfl rfl rfl (by decide +kernel) ⟨Nat.le_of_ble_eq_true rfl, Nat.le_of_ble_eq_true rfl⟩) (mm_preV hC hA hR _ h1 rfl) rfl rfl hl.1 rfl (lv_room (Nat.le_of_ble_eq_true rfl)) dX6_setNode_34 ⟨Nat.le_of_ble_eq_true rfl, Nat.le_of_ble_eq_true rfl⟩) (fun M34 H locs hp hR => ?_)
  obtain ⟨e6, ej, ff⟩ := hp
  rw [dg_I i2] at e6
  obtain ⟨f2, g2, y2, z2, e1, e2, e3⟩ := id ej
  have h6 : M34 nd = some (ia G 1024 (va_cpy (noded tn n) tn 0 (n * 32) 32)) := e6
  have hF := hF.tr ff (mm_ic 0 rfl (mm_ic 1 rfl (mm_ic 2 rfl (mm_ic 3 rfl mm_i0))))
  exact mm_vret S hr hlocks hR ⟨h6, ej, hF⟩ dX6_setNode_37
