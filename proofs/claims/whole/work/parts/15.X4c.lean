theorem sh_lo {f g : Nat → Int32} {n : Nat} {b : Int32} (h : n + 1 ≠ 64) : sh_take (f, g, n) b = (f, sh_w g n b, n + 1) := if_neg h
theorem sh_hi {f g : Nat → Int32} {n : Nat} {b : Int32} (h : n + 1 = 64) : sh_take (f, g, n) b = (mx f (sp (sh_w g n b)), sp (sh_w g n b), 0) := if_pos h
theorem sh_n {q : ShS} (b : Int32) (h : q.2.2 < 64) : (sh_take q b).2.2 = (q.2.2 + 1) % 64 := by
  unfold sh_take
  split
  · rename_i e
    rw [e]
  · show q.2.2 + 1 = _
    rw [Nat.mod_eq_of_lt (by omega)]
theorem sh_ns {q : ShS} (r : Nat → Int32) (h : q.2.2 < 64) : ∀ i, (sh_takes q r i).2.2 = (q.2.2 + i) % 64
  | 0 => by rw [Nat.add_zero, Nat.mod_eq_of_lt h]; rfl
  | i + 1 => by
    show (sh_take (sh_takes q r i) (r i)).2.2 = _
    rw [sh_n _ (by rw [sh_ns r h i]; exact Nat.mod_lt _ (by decide)), sh_ns r h i]
    omega
/-- zeros until 56 of the block are filled -/
def sh_fill (q : ShS) : ShS := sh_takes q (fun _ => nI 0) ((120 - q.2.2) % 64)
def sf : Nat → Int32
  | 0 => nI 56
  | j + 1 => sf j + Int32.ofInt (-8)
theorem sf_ge : ∀ j, j < 8 → ¬ sf j < 0 := by decide
theorem sf_8 : sf 8 < 0 := by decide
/-- the eight bytes of the length -/
def lb (b : Int64) (j : Nat) : Int32 := (b.toUInt64 >>> ((sf j).toInt64.toUInt64 &&& Int64.toUInt64 63)).toInt64.toInt32 &&& nI 255
def sh_end (q : ShS) (t : Nat) : Nat → Int32 := (sh_takes (sh_fill (sh_take q (nI 128))) (lb (8 * (nI t).toInt64)) 8).1
/-- the digest's bytes, into a row -/
def dg_go (f o : Nat → Int32) (at_ : Nat) : Nat → Nat → Int32
  | 0 => o
  | i + 1 => upd (dg_go f o at_ i) (at_ + i) (ru (f (i / 4)) (24 - 8 * (i % 4)) &&& nI 255)

set_option maxHeartbeats 4000000 in
set_option maxRecDepth 100000 in
/-- take(b) -/
theorem c_X4_take (l : Launch) (G : mm_G) (M : mm_M) (sz : Nat) (h st w : Nat) (q : ShS) (t : Nat) (b : Int32) (h1 : M h = some (ob 5 [.ref st, .ref w, .int (nI q.2.2), .int (nI t)])) (h2 : M st = some (ia G 8 q.1)) (h3 : M w = some (ia G 64 q.2.1)) (hn : q.2.2 < 64) : mm_v l yX4_take wsX4_take ({ frames := 1, cells := 0, slots := 0, locals := 50 } : Room) G ([.ref h, .int b] : List Value) M sz (fun M' => shA G M' h st w (sh_take q b) (t + 1) ∧ mm_fr [h, st, w] M M') := by
  refine mm_enter (cc := cX4_take) (maxL := 2) (ret := none) _ (by decide) rfl (Nat.le_of_ble_eq_true rfl) ?_
  intro p e s m below meth c ls S hr hlocks hname hA hC hR hl
  have hx := S.1
  have hb := S.2.1
  have hl : lv_has ls 2 [(0, .ref h), (1, .int b)] := hl
  have inRX4 : ∀ w ∈ wsX40, w ∈ wsX4_take := by decide +kernel
  have hF : mm_fr [h, st, w] M M := mm_fr.rf
  obtain ⟨f, g, n⟩ := q
  dsimp only at hn h1 h2 h3
  refine lv_aload_n hx hb dX4_take_0 rfl (lv_at hl 0 rfl) ?_
  refine mm_get S hC hR (C := RX4) (T := TX4) (N := 4) (ref := "ForkWatch$Sha256") (v := .ref w) 1 h1 inRX4 rfl (by decide) (by decide +kernel) (fun _ h9 => h9) rfl dX4_take_1 ?_
  refine lv_aload_n hx hb dX4_take_4 rfl (lv_at hl 0 rfl) ?_
  refine mm_get S hC hR (C := RX4) (T := TX4) (N := 4) (ref := "ForkWatch$Sha256") (v := .int (nI n)) 2 h1 inRX4 rfl (by decide) (by decide +kernel) (fun _ h9 => h9) rfl dX4_take_5 ?_
  refine lv_iconst (v := nI 2) hx hb dX4_take_8 (by decide) ?_
  refine lv_ishr hx hb dX4_take_9 ?_
  refine mm_eqi (pk_shrN (by omega) _ 2 (by decide)) ?_
  refine mm_eqi (congrArg nI (show n / 2 ^ 2 = n / 4 by omega)) ?_
  refine lv_aload_n hx hb dX4_take_10 rfl (lv_at hl 0 rfl) ?_
  refine mm_get S hC hR (C := RX4) (T := TX4) (N := 4) (ref := "ForkWatch$Sha256") (v := .ref w) 1 h1 inRX4 rfl (by decide) (by decide +kernel) (fun _ h9 => h9) rfl dX4_take_11 ?_
  refine lv_aload_n hx hb dX4_take_14 rfl (lv_at hl 0 rfl) ?_
  refine mm_get S hC hR (C := RX4) (T := TX4) (N := 4) (ref := "ForkWatch$Sha256") (v := .int (nI n)) 2 h1 inRX4 rfl (by decide) (by decide +kernel) (fun _ h9 => h9) rfl dX4_take_15 ?_
  refine lv_iconst (v := nI 2) hx hb dX4_take_18 (by decide) ?_
  refine lv_ishr hx hb dX4_take_19 ?_
  refine mm_eqi (pk_shrN (by omega) _ 2 (by decide)) ?_
  refine mm_eqi (congrArg nI (show n / 2 ^ 2 = n / 4 by omega)) ?_
  refine mm_iald S hC hR h3 (j := (n / 4)) (by omega) (by omega) dX4_take_20 ?_
  refine lv_bipush (v := nI 8) hx hb dX4_take_21 (by decide) ?_
  refine lv_ishl hx hb dX4_take_23 ?_
  refine lv_iload_n hx hb dX4_take_24 rfl (lv_at hl 1 rfl) ?_
  refine lv_ior hx hb dX4_take_25 ?_
  refine mm_iast S hC hR h3 (j := (n / 4)) (by omega) (by omega) dX4_take_26 (fun H locs M1 g3 f2 hR => ?_)
  have h1 := f2.at h1 (mm_nc (mm_neoi h1 h3) mm_n0)
  have h2 := f2.at h2 (mm_nc (mm_nelen h2 h3 (by decide)) mm_n0)
  have h3 : M1 w = some (ia G 64 (upd g (n / 4) (((g (n / 4)) <<< ((nI 8) &&& 31)) ||| b))) := g3
  have hF := hF.tr f2 (mm_ic 2 rfl mm_i0)
  have h3 : M1 w = some (ia G 64 (sh_w g n b)) := h3
  refine lv_aload_n hx hb dX4_take_27 rfl (lv_at hl 0 rfl) ?_
  refine lv_dup hx hb dX4_take_28 rfl ?_
  refine mm_get S hC hR (C := RX4) (T := TX4) (N := 4) (ref := "ForkWatch$Sha256") (v := .int (nI n)) 2 h1 inRX4 rfl (by decide) (by decide +kernel) (fun _ h9 => h9) rfl dX4_take_29 ?_
  refine lv_iconst (v := nI 1) hx hb dX4_take_32 (by decide) ?_
  refine lv_iadd hx hb dX4_take_33 ?_
  refine mm_eqi (nI_add _ _) ?_
  refine mm_put S hC hR (C := RX4) (T := TX4) (N := 4) (ref := "ForkWatch$Sha256") 2 h1 inRX4 rfl tyX4_ok nmX4 (by decide) (by decide +kernel) (fun _ h9 => h9) rfl rfl rfl (Nat.le_of_ble_eq_true rfl) dX4_take_34 (fun H locs M4 g6 f5 hR => ?_)
  have h2 := f5.at h2 (mm_nc (Ne.symm (mm_neoi h1 h2)) mm_n0)
  have h3 := f5.at h3 (mm_nc (Ne.symm (mm_neoi h1 h3)) mm_n0)
  have h1 : M4 h = some (ob 5 [.ref st, .ref w, .int (nI (n + 1)), .int (nI t)]) := g6
  have hF := hF.tr f5 (mm_ic 0 rfl mm_i0)
  refine lv_aload_n hx hb dX4_take_37 rfl (lv_at hl 0 rfl) ?_
  refine lv_dup hx hb dX4_take_38 rfl ?_
  refine mm_get S hC hR (C := RX4) (T := TX4) (N := 4) (ref := "ForkWatch$Sha256") (v := .int (nI t)) 3 h1 inRX4 rfl (by decide) (by decide +kernel) (fun _ h9 => h9) rfl dX4_take_39 ?_
  refine lv_iconst (v := nI 1) hx hb dX4_take_42 (by decide) ?_
  refine lv_iadd hx hb dX4_take_43 ?_
  refine mm_eqi (nI_add _ _) ?_
  refine mm_put S hC hR (C := RX4) (T := TX4) (N := 4) (ref := "ForkWatch$Sha256") 3 h1 inRX4 rfl tyX4_ok nmX4 (by decide) (by decide +kernel) (fun _ h9 => h9) rfl rfl rfl (Nat.le_of_ble_eq_true rfl) dX4_take_44 (fun H locs M7 g9 f8 hR => ?_)
  have h2 := f8.at h2 (mm_nc (Ne.symm (mm_neoi h1 h2)) mm_n0)
  have h3 := f8.at h3 (mm_nc (Ne.symm (mm_neoi h1 h3)) mm_n0)
  have h1 : M7 h = some (ob 5 [.ref st, .ref w, .int (nI (n + 1)), .int (nI (t + 1))]) := g9
  have hF := hF.tr f8 (mm_ic 0 rfl mm_i0)
  refine lv_aload_n hx hb dX4_take_47 rfl (lv_at hl 0 rfl) ?_
  refine mm_get S hC hR (C := RX4) (T := TX4) (N := 4) (ref := "ForkWatch$Sha256") (v := .int (nI (n + 1))) 2 h1 inRX4 rfl (by decide) (by decide +kernel) (fun _ h9 => h9) rfl dX4_take_48 ?_
  refine lv_bipush (v := nI 64) hx hb dX4_take_51 (by decide) ?_
  refine lv_icmp_ne (tgt := 69) hx hb dX4_take_53 (by decide) (fun cc => ?_) (fun cc => ?_)
  · have cc : n + 1 ≠ 64 := fun z => cc (congrArg nI z)
    exact mm_vret S hr hlocks hR ⟨by rw [sh_lo cc]; exact ⟨h1, h2, h3, by show n + 1 < 64; omega⟩, hF⟩ dX4_take_69
  · have cc : n + 1 = 64 := (nI_eq (by omega) (by omega)).mp cc
    refine lv_aload_n hx hb dX4_take_56 rfl (lv_at hl 0 rfl) ?_
    refine mm_callv hA hR (va_runV (As := []) (rest := []) S (c_X4_spread l G M7 H.size h st w _ _ f (sh_w g n b) h1 h2 h3) (cwV 0 S.2.2.2.2 gX4_take_X4_spread rfl rfl rfl (by decide +kernel) ⟨Nat.le_of_ble_eq_true rfl, Nat.le_of_ble_eq_true rfl⟩) (mm_preV hC hA hR _ h1 rfl) rfl rfl hl.1 rfl (lv_room (Nat.le_of_ble_eq_true rfl)) dX4_take_57 ⟨Nat.le_of_ble_eq_true rfl, Nat.le_of_ble_eq_true rfl⟩) (fun M11 H locs hp hR => ?_)
    obtain ⟨b3, ff⟩ := hp
    have h1 := ff.at h1 (mm_nc (mm_neoi h1 h3) mm_n0)
    have h2 := ff.at h2 (mm_nc (mm_nelen h2 h3 (by decide)) mm_n0)
    have h3 : M11 w = some (ia G 64 (sp (sh_w g n b))) := b3
    have hF := hF.tr ff (mm_ic 2 rfl mm_i0)
    refine lv_aload_n hx hb dX4_take_60 rfl (lv_at hl 0 rfl) ?_
    refine mm_callv hA hR (va_runV (As := []) (rest := []) S (c_X4_mix l G M11 H.size h st w _ _ f (sp (sh_w g n b)) h1 h2 h3) (cwV 0 S.2.2.2.2 gX4_take_X4_mix rfl rfl rfl (by decide +kernel) ⟨Nat.le_of_ble_eq_true rfl, Nat.le_of_ble_eq_true rfl⟩) (mm_preV hC hA hR _ h1 rfl) rfl rfl hl.1 rfl (lv_room (Nat.le_of_ble_eq_true rfl)) dX4_take_61 ⟨Nat.le_of_ble_eq_true rfl, Nat.le_of_ble_eq_true rfl⟩) (fun M13 H locs hp hR => ?_)
    obtain ⟨b2, ff⟩ := hp
    have h1 := ff.at h1 (mm_nc (mm_neoi h1 h2) mm_n0)
    have h3 := ff.at h3 (mm_nc (mm_nelen h3 h2 (by decide)) mm_n0)
    have h2 : M13 st = some (ia G 8 (mx f (sp (sh_w g n b)))) := b2
    have hF := hF.tr ff (mm_ic 1 rfl mm_i0)
    refine lv_aload_n hx hb dX4_take_64 rfl (lv_at hl 0 rfl) ?_
    refine lv_iconst (v := nI 0) hx hb dX4_take_65 (by decide) ?_
    refine mm_put S hC hR (C := RX4) (T := TX4) (N := 4) (ref := "ForkWatch$Sha256") 2 h1 inRX4 rfl tyX4_ok nmX4 (by decide) (by decide +kernel) (fun _ h9 => h9) rfl rfl rfl (Nat.le_of_ble_eq_true rfl) dX4_take_66 (fun H locs M14 g16 f15 hR => ?_)
    have h2 := f15.at h2 (mm_nc (Ne.symm (mm_neoi h1 h2)) mm_n0)
    have h3 := f15.at h3 (mm_nc (Ne.symm (mm_neoi h1 h3)) mm_n0)
    have h1 : M14 h = some (ob 5 [.ref st, .ref w, .int (nI 0), .int (nI (t + 1))]) := g16
    have hF := hF.tr f15 (mm_ic 0 rfl mm_i0)
    exact mm_vret S hr hlocks hR ⟨by rw [sh_hi cc]; exact ⟨h1, h2, h3, Nat.succ_pos _⟩, hF⟩ dX4_take_69

set_option maxHeartbeats 4000000 in
set_option maxRecDepth 100000 in
/-- takeRow(row, from, length) -/
theorem c_X4_takeRow (l : Launch) (G : mm_G) (M : mm_M) (sz : Nat) (h st w a k : Nat) (q : ShS) (t o len : Nat) (r : Nat → Int32) (h1 : M h = some (ob 5 [.ref st, .ref w, .int (nI q.2.2), .int (nI t)])) (h2 : M st = some (ia G 8 q.1)) (h3 : M w = some (ia G 64 q.2.1)) (h4 : M a = some (ia G k r)) (hn : q.2.2 < 64) (ho : o + len ≤ k) (hk : k < 2 ^ 31) (n1 : a ≠ st) (n2 : a ≠ w) : mm_v l yX4_takeRow wsX4_takeRow ({ frames := 2, cells := 0, slots := 0, locals := 80 } : Room) G ([.ref h, .ref a, .int (nI o), .int (nI len)] : List Value) M sz (fun M' => shA G M' h st w (sh_takes q (fun j => r (o + j)) len) (t + len) ∧ mm_fr [h, st, w] M M') := by
  refine mm_enter (cc := cX4_takeRow) (maxL := 5) (ret := none) _ (by decide) rfl (Nat.le_of_ble_eq_true rfl) ?_
  intro p e s m below meth c ls S hr hlocks hname hA hC hR hl
  have hx := S.1
  have hb := S.2.1
  have hl : lv_has ls 5 [(0, .ref h), (1, .ref a), (2, .int (nI o)), (3, .int (nI len))] := hl
  have inRX4 : ∀ w ∈ wsX40, w ∈ wsX4_takeRow := by decide +kernel
  have hF : mm_fr [h, st, w] M M := mm_fr.rf
  refine lv_iconst (v := nI 0) hx hb dX4_takeRow_0 (by decide) ?_
  refine lv_istore (lv' := [(4, .int (nI 0)), (0, .ref h), (1, .ref a), (2, .int (nI o)), (3, .int (nI len))]) hx hb dX4_takeRow_1 hl (by decide) rfl (fun ls hl => ?_)
  have loop : ∀ (n i : Nat) (M1 : mm_M) (H : Heap) (locs : List Loc) (ls : Array Slot), len < i + n → i ≤ len → shA G M1 h st w (sh_takes q (fun j => r (o + j)) i) (t + i) → M1 a = some (ia G k r) → mm_fr [h, st, w] M M1 → mm_R G s (mm_A M sz) M1 H locs → lv_has ls 5 [(0, .ref h), (1, .ref a), (2, .int (nI o)), (3, .int (nI len)), (4, .int (nI i))] → W p l e ({ frames := 2, cells := 0, slots := 0, locals := 80 } : Room) s m ([.ref h, .ref a, .int (nI o), .int (nI len)] : List Value).toArray below meth c H locs 0 0 (MQ below (va_Qv (fun M' => shA G M' h st w (sh_takes q (fun j => r (o + j)) len) (t + len) ∧ mm_fr [h, st, w] M M') (fun M' t => mm_H G (mm_A M sz) M' t.heap) (mm_A M sz)) ([.ref h, .ref a, .int (nI o), .int (nI len)] : List Value).toArray s 0 0 (mm_A M sz)) (F0 m 3 ls []) := by
    intro n
    induction n with
    | zero =>
      intro i M1 H locs ls hn hi hs h4 hF hR hl
      omega
    | succ n ih =>
      intro i M1 H locs ls hn hi hs h4 hF hR hl
      refine lv_iload hx hb dX4_takeRow_3 (lv_at hl 4 rfl) ?_
      refine lv_iload_n hx hb dX4_takeRow_5 rfl (lv_at hl 3 rfl) ?_
      refine lv_icmp_ge (tgt := 25) hx hb dX4_takeRow_6 (by decide) (fun c17 => ?_) (fun c17 => ?_)
      · have c17 : len ≤ i := (nI_leI (by omega) (by omega)).mp c17
        have e4 : i = len := by omega
        subst e4
        exact mm_vret S hr hlocks hR ⟨hs, hF⟩ dX4_takeRow_25
      · have c17 : ¬ (len ≤ i) := fun z => c17 ((nI_leI (by omega) (by omega)).mpr z)
        obtain ⟨qi, eqi⟩ : ∃ z : ShS, z = sh_takes q (fun j => r (o + j)) i := ⟨_, rfl⟩
        rw [← eqi] at hs
        obtain ⟨h1, h2, h3, hq⟩ := hs
        refine lv_aload_n hx hb dX4_takeRow_9 rfl (lv_at hl 0 rfl) ?_
        refine lv_aload_n hx hb dX4_takeRow_10 rfl (lv_at hl 1 rfl) ?_
        refine lv_iload_n hx hb dX4_takeRow_11 rfl (lv_at hl 2 rfl) ?_
        refine lv_iload hx hb dX4_takeRow_12 (lv_at hl 4 rfl) ?_
        refine lv_iadd hx hb dX4_takeRow_14 ?_
        refine mm_eqi (nI_add _ _) ?_
        refine mm_iald S hC hR h4 (j := (o + i)) (by omega) (by omega) dX4_takeRow_15 ?_
        refine mm_callv hA hR (va_runV (As := [.int (r (o + i))]) (rest := []) S (c_X4_take l G M1 H.size h st w qi (t + i) (r (o + i)) h1 h2 h3 hq) (cwV 1 S.2.2.2.2 gX4_takeRow_X4_take rfl rfl rfl (by decide +kernel) ⟨Nat.le_of_ble_eq_true rfl, Nat.le_of_ble_eq_true rfl⟩) (mm_preV hC hA hR _ h1 rfl) rfl rfl hl.1 rfl (lv_room (Nat.le_of_ble_eq_true rfl)) dX4_takeRow_16 ⟨Nat.le_of_ble_eq_true rfl, Nat.le_of_ble_eq_true rfl⟩) (fun M19 H locs hp hR => ?_)
        obtain ⟨⟨a1, a2, a3, a4⟩, ff⟩ := hp
        have h4 := ff.at h4 (mm_nc (Ne.symm (mm_neoi h1 h4)) (mm_nc n1 (mm_nc n2 mm_n0)))
        have h1 : M19 h = some (ob 5 [.ref st, .ref w, .int (nI ((sh_take qi (r (o + i))).2.2)), .int (nI (t + i + 1))]) := a1
        have h2 : M19 st = some (ia G 8 ((sh_take qi (r (o + i))).1)) := a2
        have h3 : M19 w = some (ia G 64 ((sh_take qi (r (o + i))).2.1)) := a3
        have hF := hF.tr ff (mm_ic 0 rfl (mm_ic 1 rfl (mm_ic 2 rfl mm_i0)))
        refine lv_iinc (v := (nI (i + 1))) (lv' := [(4, .int (nI (i + 1))), (0, .ref h), (1, .ref a), (2, .int (nI o)), (3, .int (nI len))]) hx hb dX4_takeRow_19 hl (k := 4) rfl (by rw [show Int32.ofInt 1 = nI 1 from by decide]; exact nI_add _ _) (by decide) rfl (fun ls hl => ?_)
        refine lv_goto (tgt := 3) hx hb dX4_takeRow_22 (by decide) ?_
        exact ih (i + 1) _ H locs ls (by omega) (by omega) (by show shA G _ h st w (sh_take (sh_takes q (fun j => r (o + j)) i) (r (o + i))) (t + (i + 1)); rw [← eqi]; exact ⟨h1, h2, h3, a4⟩) h4 hF hR (lv_sub hl [1, 2, 3, 4, 0] rfl)
  exact loop (len + 1) 0 _ _ _ ls (by omega) (by omega) ⟨h1, h2, h3, hn⟩ h4 hF hR (lv_sub hl [1, 2, 3, 4, 0] rfl)

set_option maxHeartbeats 4000000 in
set_option maxRecDepth 100000 in
/-- start() -/
theorem c_X4_start (l : Launch) (G : mm_G) (M : mm_M) (sz : Nat) (h st w : Nat) (f g : Nat → Int32) (a b : Int32) (h1 : M h = some (ob 5 [.ref st, .ref w, .int a, .int b])) (h2 : M st = some (ia G 8 f)) (h3 : M w = some (ia G 64 g))  : mm_v l yX4_start wsX4_start ({ frames := 1, cells := 0, slots := 0, locals := 30 } : Room) G ([.ref h] : List Value) M sz (fun M' => shA G M' h st w (va_cpy k_begin f 0 0 8, g, 0) 0 ∧ mm_fr [h, st, w] M M') := by
  refine mm_enter (cc := cX4_start) (maxL := 1) (ret := none) _ (by decide) rfl (Nat.le_of_ble_eq_true rfl) ?_
  intro p e s m below meth c ls S hr hlocks hname hA hC hR hl
  have hx := S.1
  have hb := S.2.1
  have hl : lv_has ls 1 [(0, .ref h)] := hl
  have inRX4 : ∀ w ∈ wsX40, w ∈ wsX4_start := by decide +kernel
  have hF : mm_fr [h, st, w] M M := mm_fr.rf
  refine mm_gstart S hC hR (by decide +kernel) dX4_start_0 ?_
  refine lv_iconst (v := nI 0) hx hb dX4_start_3 (by decide) ?_
  refine lv_aload_n hx hb dX4_start_4 rfl (lv_at hl 0 rfl) ?_
  refine mm_get S hC hR (C := RX4) (T := TX4) (N := 4) (ref := "ForkWatch$Sha256") (v := .ref st) 0 h1 inRX4 rfl (by decide) (by decide +kernel) (fun _ h9 => h9) rfl dX4_start_5 ?_
  refine lv_iconst (v := nI 0) hx hb dX4_start_8 (by decide) ?_
  refine mm_gstart S hC hR (by decide +kernel) dX4_start_9 ?_
  refine mm_lstart S hC hR dX4_start_12 ?_
  refine mm_copyS S hC hR hl.1 h2 (by decide +kernel) (by decide +kernel) (by decide +kernel) (by decide +kernel) (Nat.le_of_ble_eq_true rfl) (Nat.le_of_ble_eq_true rfl) dX4_start_13 (fun H locs M1 g1 f1 hR => ?_)
  have h1 := f1.at h1 (mm_nc (mm_neoi h1 h2) mm_n0)
  have h3 := f1.at h3 (mm_nc (mm_nelen h3 h2 (by decide)) mm_n0)
  have h2 : M1 st = some (ia G 8 (va_cpy k_begin f 0 0 8)) := g1
  have hF := hF.tr f1 (mm_ic 1 rfl mm_i0)
  refine lv_aload_n hx hb dX4_start_16 rfl (lv_at hl 0 rfl) ?_
  refine lv_iconst (v := nI 0) hx hb dX4_start_17 (by decide) ?_
  refine mm_put S hC hR (C := RX4) (T := TX4) (N := 4) (ref := "ForkWatch$Sha256") 2 h1 inRX4 rfl tyX4_ok nmX4 (by decide) (by decide +kernel) (fun _ h9 => h9) rfl rfl rfl (Nat.le_of_ble_eq_true rfl) dX4_start_18 (fun H locs M20 g22 f21 hR => ?_)
  have h2 := f21.at h2 (mm_nc (Ne.symm (mm_neoi h1 h2)) mm_n0)
  have h3 := f21.at h3 (mm_nc (Ne.symm (mm_neoi h1 h3)) mm_n0)
  have h1 : M20 h = some (ob 5 [.ref st, .ref w, .int (nI 0), .int b]) := g22
  have hF := hF.tr f21 (mm_ic 0 rfl mm_i0)
  refine lv_aload_n hx hb dX4_start_21 rfl (lv_at hl 0 rfl) ?_
  refine lv_iconst (v := nI 0) hx hb dX4_start_22 (by decide) ?_
  refine mm_put S hC hR (C := RX4) (T := TX4) (N := 4) (ref := "ForkWatch$Sha256") 3 h1 inRX4 rfl tyX4_ok nmX4 (by decide) (by decide +kernel) (fun _ h9 => h9) rfl rfl rfl (Nat.le_of_ble_eq_true rfl) dX4_start_23 (fun H locs M23 g25 f24 hR => ?_)
  have h2 := f24.at h2 (mm_nc (Ne.symm (mm_neoi h1 h2)) mm_n0)
  have h3 := f24.at h3 (mm_nc (Ne.symm (mm_neoi h1 h3)) mm_n0)
  have h1 : M23 h = some (ob 5 [.ref st, .ref w, .int (nI 0), .int (nI 0)]) := g25
  have hF := hF.tr f24 (mm_ic 0 rfl mm_i0)
  exact mm_vret S hr hlocks hR ⟨⟨h1, h2, h3, Nat.succ_pos _⟩, hF⟩ dX4_start_26

set_option maxHeartbeats 4000000 in
set_option maxRecDepth 100000 in
/-- finish(out, at) -/
theorem c_X4_finish (l : Launch) (G : mm_G) (M : mm_M) (sz : Nat) (h st w o k : Nat) (q : ShS) (t at_ : Nat) (r : Nat → Int32) (h1 : M h = some (ob 5 [.ref st, .ref w, .int (nI q.2.2), .int (nI t)])) (h2 : M st = some (ia G 8 q.1)) (h3 : M w = some (ia G 64 q.2.1)) (h4 : M o = some (ia G k r)) (hn : q.2.2 < 64) (ho : at_ + 32 ≤ k) (hk : k < 2 ^ 31) (n1 : o ≠ st) (n2 : o ≠ w) : mm_v l yX4_finish wsX4_finish ({ frames := 2, cells := 0, slots := 0, locals := 80 } : Room) G ([.ref h, .ref o, .int (nI at_)] : List Value) M sz (fun M' => M' o = some (ia G k (dg_go (sh_end q t) r at_ 32)) ∧ shJ G M' h st w ∧ mm_fr [h, st, w, o] M M') := by
  refine mm_enter (cc := cX4_finish) (maxL := 6) (ret := none) _ (by decide) rfl (Nat.le_of_ble_eq_true rfl) ?_
  intro p e s m below meth c ls S hr hlocks hname hA hC hR hl
  have hx := S.1
  have hb := S.2.1
  have hl : lv_has ls 6 [(0, .ref h), (1, .ref o), (2, .int (nI at_))] := hl
  have inRX4 : ∀ w ∈ wsX40, w ∈ wsX4_finish := by decide +kernel
  have hF : mm_fr [h, st, w, o] M M := mm_fr.rf
  have n3 : h ≠ o := mm_neoi h1 h4
  refine lv_ldc2 (v := 8) hx hb S.2.2.2.1 (S.2.2.2.2 (.constantLong RX4 44 (8)) (by decide +kernel)) dX4_finish_0 ?_
  refine lv_aload_n hx hb dX4_finish_3 rfl (lv_at hl 0 rfl) ?_
  refine mm_get S hC hR (C := RX4) (T := TX4) (N := 4) (ref := "ForkWatch$Sha256") (v := .int (nI t)) 3 h1 inRX4 rfl (by decide) (by decide +kernel) (fun _ h9 => h9) rfl dX4_finish_4 ?_
  refine lv_i2l hx hb dX4_finish_7 rfl ?_
  refine lv_lmul hx hb dX4_finish_8 ?_
  refine lv_topl (fun bits ebits => ?_)
  refine lv_lstore_n (lv' := [(3, .long bits), (0, .ref h), (1, .ref o), (2, .int (nI at_))]) hx hb dX4_finish_9 rfl hl (by decide) rfl (fun ls hl => ?_)
  refine lv_aload_n hx hb dX4_finish_10 rfl (lv_at hl 1 rfl) ?_
  refine lv_sipush (v := nI 128) hx hb dX4_finish_11 (by decide) ?_
  refine mm_callv hA hR (va_runV (As := [.int (nI 128)]) (rest := []) S (c_X4_take l G M _ h st w q t (nI 128) h1 h2 h3 hn) (cwV 1 S.2.2.2.2 gX4_finish_X4_take rfl rfl rfl (by decide +kernel) ⟨Nat.le_of_ble_eq_true rfl, Nat.le_of_ble_eq_true rfl⟩) (mm_preV hC hA hR _ h1 rfl) rfl rfl hl.1 rfl (lv_room (Nat.le_of_ble_eq_true rfl)) dX4_finish_14 ⟨Nat.le_of_ble_eq_true rfl, Nat.le_of_ble_eq_true rfl⟩) (fun M27 H locs hp hR => ?_)
  obtain ⟨q1, eq1⟩ : ∃ z : ShS, z = sh_take q (nI 128) := ⟨_, rfl⟩
  rw [← eq1] at hp
  obtain ⟨⟨a1, a2, a3, a4⟩, ff⟩ := hp
  have h4 := ff.at h4 (mm_nc (Ne.symm n3) (mm_nc n1 (mm_nc n2 mm_n0)))
  have h1 : M27 h = some (ob 5 [.ref st, .ref w, .int (nI q1.2.2), .int (nI (t + 1))]) := a1
  have h2 : M27 st = some (ia G 8 q1.1) := a2
  have h3 : M27 w = some (ia G 64 q1.2.1) := a3
  have hF := hF.tr ff (mm_ic 0 rfl (mm_ic 1 rfl (mm_ic 2 rfl mm_i0)))
  refine lv_iconst (v := nI 0) hx hb dX4_finish_17 (by decide) ?_
  refine lv_istore (lv' := [(5, .int (nI 0)), (3, .long bits), (0, .ref h), (1, .ref o), (2, .int (nI at_))]) hx hb dX4_finish_18 hl (by decide) rfl (fun ls hl => ?_)
  have loopA : ∀ (n i : Nat) (M1 : mm_M) (H : Heap) (locs : List Loc) (ls : Array Slot), (120 - q1.2.2) % 64 < i + n → i ≤ (120 - q1.2.2) % 64 → shA G M1 h st w (sh_takes q1 (fun _ => nI 0) i) (t + 1 + i) → M1 o = some (ia G k r) → mm_fr [h, st, w, o] M M1 → mm_R G s (mm_A M sz) M1 H locs → lv_has ls 6 [(0, .ref h), (1, .ref o), (2, .int (nI at_)), (3, .long bits), (5, .int (nI i))] → W p l e ({ frames := 2, cells := 0, slots := 0, locals := 80 } : Room) s m ([.ref h, .ref o, .int (nI at_)] : List Value).toArray below meth c H locs 0 0 (MQ below (va_Qv (fun M' => M' o = some (ia G k (dg_go (sh_end q t) r at_ 32)) ∧ shJ G M' h st w ∧ mm_fr [h, st, w, o] M M') (fun M' t => mm_H G (mm_A M sz) M' t.heap) (mm_A M sz)) ([.ref h, .ref o, .int (nI at_)] : List Value).toArray s 0 0 (mm_A M sz)) (F0 m 20 ls []) := by
    intro n
    induction n with
    | zero =>
      intro i M1 H locs ls hn hi hs h4 hF hR hl
      omega
    | succ n ih =>
      intro i M1 H locs ls hn hi hs h4 hF hR hl
      have hfl := sh_ns (fun _ => nI 0) a4 i
      obtain ⟨qi, eqi⟩ : ∃ z : ShS, z = sh_takes q1 (fun _ => nI 0) i := ⟨_, rfl⟩
      rw [← eqi] at hs hfl
      obtain ⟨h1, h2, h3, hq⟩ := hs
      refine lv_iload hx hb dX4_finish_20 (lv_at hl 4 rfl) ?_
      refine lv_bipush (v := nI 64) hx hb dX4_finish_22 (by decide) ?_
      refine lv_icmp_ge (tgt := 47) hx hb dX4_finish_24 (by decide) (fun c1 => ?_) (fun c1 => ?_)
      · have c1 : 64 ≤ i := (nI_leI (by omega) (by omega)).mp c1
        omega
      · have c1 : ¬ (64 ≤ i) := fun z => c1 ((nI_leI (by omega) (by omega)).mpr z)
        refine lv_aload_n hx hb dX4_finish_27 rfl (lv_at hl 0 rfl) ?_
        refine mm_get S hC hR (C := RX4) (T := TX4) (N := 4) (ref := "ForkWatch$Sha256") (v := .int (nI qi.2.2)) 2 h1 inRX4 rfl (by decide) (by decide +kernel) (fun _ h9 => h9) rfl dX4_finish_28 ?_
        refine lv_bipush (v := nI 56) hx hb dX4_finish_31 (by decide) ?_
        refine lv_icmp_eq (tgt := 47) hx hb dX4_finish_33 (by decide) (fun c2 => ?_) (fun c2 => ?_)
        · have c2 : qi.2.2 = 56 := (nI_eq (by omega) (by omega)).mp c2
          have e4 : i = (120 - q1.2.2) % 64 := by omega
          subst e4
          have e5 : qi = sh_fill q1 := eqi
          refine lv_bipush (v := nI 56) hx hb dX4_finish_47 (by decide) ?_
          refine lv_istore (lv' := [(5, .int (nI 56)), (0, .ref h), (1, .ref o), (2, .int (nI at_)), (3, .long bits)]) hx hb dX4_finish_49 hl (by decide) rfl (fun ls hl => ?_)
          have loopB : ∀ (n j : Nat) (M1 : mm_M) (H : Heap) (locs : List Loc) (ls : Array Slot), 8 < j + n → j ≤ 8 → shA G M1 h st w (sh_takes qi (lb bits) j) (t + 1 + (120 - q1.2.2) % 64 + j) → M1 o = some (ia G k r) → mm_fr [h, st, w, o] M M1 → mm_R G s (mm_A M sz) M1 H locs → lv_has ls 6 [(0, .ref h), (1, .ref o), (2, .int (nI at_)), (3, .long bits), (5, .int (sf j))] → W p l e ({ frames := 2, cells := 0, slots := 0, locals := 80 } : Room) s m ([.ref h, .ref o, .int (nI at_)] : List Value).toArray below meth c H locs 0 0 (MQ below (va_Qv (fun M' => M' o = some (ia G k (dg_go (sh_end q t) r at_ 32)) ∧ shJ G M' h st w ∧ mm_fr [h, st, w, o] M M') (fun M' t => mm_H G (mm_A M sz) M' t.heap) (mm_A M sz)) ([.ref h, .ref o, .int (nI at_)] : List Value).toArray s 0 0 (mm_A M sz)) (F0 m 51 ls []) := by
            intro n
            induction n with
            | zero =>
              intro j M1 H locs ls hn hi hs h4 hF hR hl
              omega
            | succ n ih =>
              intro j M1 H locs ls hn hi hs h4 hF hR hl
              obtain ⟨qj, eqj⟩ : ∃ z : ShS, z = sh_takes qi (lb bits) j := ⟨_, rfl⟩
              rw [← eqj] at hs
              obtain ⟨h1, h2, h3, hq⟩ := hs
              refine lv_iload hx hb dX4_finish_51 (lv_at hl 4 rfl) ?_
              refine lv_if_lt (tgt := 75) hx hb dX4_finish_53 (by decide) (fun c3 => ?_) (fun c3 => ?_)
              · skip
                have e8 : j = 8 := Classical.byContradiction (fun z => sf_ge j (by omega) c3)
                subst e8
                have e9 : qj.1 = sh_end q t := by rw [eqj, e5, eq1, ebits]; rfl
                refine lv_iconst (v := nI 0) hx hb dX4_finish_75 (by decide) ?_
                refine lv_istore (lv' := [(5, .int (nI 0)), (0, .ref h), (1, .ref o), (2, .int (nI at_)), (3, .long bits)]) hx hb dX4_finish_76 hl (by decide) rfl (fun ls hl => ?_)
                have loopC : ∀ (n i : Nat) (M1 : mm_M) (H : Heap) (locs : List Loc) (ls : Array Slot), 32 < i + n → i ≤ 32 → M1 h = some (ob 5 [.ref st, .ref w, .int (nI qj.2.2), .int (nI (t + 1 + (120 - q1.2.2) % 64 + 8))]) → M1 st = some (ia G 8 qj.1) → M1 w = some (ia G 64 qj.2.1) → M1 o = some (ia G k (dg_go qj.1 r at_ i)) → mm_fr [h, st, w, o] M M1 → mm_R G s (mm_A M sz) M1 H locs → lv_has ls 6 [(0, .ref h), (1, .ref o), (2, .int (nI at_)), (5, .int (nI i))] → W p l e ({ frames := 2, cells := 0, slots := 0, locals := 80 } : Room) s m ([.ref h, .ref o, .int (nI at_)] : List Value).toArray below meth c H locs 0 0 (MQ below (va_Qv (fun M' => M' o = some (ia G k (dg_go (sh_end q t) r at_ 32)) ∧ shJ G M' h st w ∧ mm_fr [h, st, w, o] M M') (fun M' t => mm_H G (mm_A M sz) M' t.heap) (mm_A M sz)) ([.ref h, .ref o, .int (nI at_)] : List Value).toArray s 0 0 (mm_A M sz)) (F0 m 78 ls []) := by
                  intro n
                  induction n with
                  | zero =>
                    intro i M1 H locs ls hn hi h1 h2 h3 h4 hF hR hl
                    omega
                  | succ n ih =>
                    intro i M1 H locs ls hn hi h1 h2 h3 h4 hF hR hl
                    refine lv_iload hx hb dX4_finish_78 (lv_at hl 3 rfl) ?_
                    refine lv_bipush (v := nI 32) hx hb dX4_finish_80 (by decide) ?_
                    refine lv_icmp_ge (tgt := 121) hx hb dX4_finish_82 (by decide) (fun c28 => ?_) (fun c28 => ?_)
                    · have c28 : 32 ≤ i := (nI_leI (by omega) (by omega)).mp c28
                      have e4 : i = 32 := by omega
                      subst e4
                      exact mm_vret S hr hlocks hR ⟨by rw [e9] at h4; exact h4, ⟨_, _, _, _, h1, h2, h3⟩, hF⟩ dX4_finish_121
                    · have c28 : ¬ (32 ≤ i) := fun z => c28 ((nI_leI (by omega) (by omega)).mpr z)
                      refine lv_aload_n hx hb dX4_finish_85 rfl (lv_at hl 1 rfl) ?_
                      refine lv_iload_n hx hb dX4_finish_86 rfl (lv_at hl 2 rfl) ?_
                      refine lv_iload hx hb dX4_finish_87 (lv_at hl 3 rfl) ?_
                      refine lv_iadd hx hb dX4_finish_89 ?_
                      refine mm_eqi (nI_add _ _) ?_
                      refine lv_aload_n hx hb dX4_finish_90 rfl (lv_at hl 0 rfl) ?_
                      refine mm_get S hC hR (C := RX4) (T := TX4) (N := 4) (ref := "ForkWatch$Sha256") (v := .ref st) 0 h1 inRX4 rfl (by decide) (by decide +kernel) (fun _ h9 => h9) rfl dX4_finish_91 ?_
                      refine lv_iload hx hb dX4_finish_94 (lv_at hl 3 rfl) ?_
                      refine lv_iconst (v := nI 2) hx hb dX4_finish_96 (by decide) ?_
                      refine lv_ishr hx hb dX4_finish_97 ?_
                      refine mm_eqi (pk_shrN (by omega) _ 2 (by decide)) ?_
                      refine mm_eqi (congrArg nI (show i / 2 ^ 2 = i / 4 by omega)) ?_
                      refine mm_iald S hC hR h2 (j := (i / 4)) (by omega) (by omega) dX4_finish_98 ?_
                      refine lv_bipush (v := nI 24) hx hb dX4_finish_99 (by decide) ?_
                      refine lv_bipush (v := nI 8) hx hb dX4_finish_101 (by decide) ?_
                      refine lv_iload hx hb dX4_finish_103 (lv_at hl 3 rfl) ?_
                      refine lv_iconst (v := nI 3) hx hb dX4_finish_105 (by decide) ?_
                      refine lv_iand hx hb dX4_finish_106 ?_
                      refine mm_eqi (pk_andN (by omega) 2 (by decide)) ?_
                      refine mm_eqi (congrArg nI (show i % 2 ^ 2 = i % 4 by omega)) ?_
                      refine lv_imul hx hb dX4_finish_107 ?_
                      refine mm_eqi (pk_mul _ _) ?_
                      refine lv_isub hx hb dX4_finish_108 ?_
                      refine mm_eqi (pk_sub (by omega)) ?_
                      refine lv_iushr hx hb dX4_finish_109 rfl ?_
                      refine lv_sipush (v := nI 255) hx hb dX4_finish_110 (by decide) ?_
                      refine lv_iand hx hb dX4_finish_113 ?_
                      refine mm_iast S hC hR h4 (j := (at_ + i)) (by omega) (by omega) dX4_finish_114 (fun H locs M29 g31 f30 hR => ?_)
                      have h1 := f30.at h1 (mm_nc n3 mm_n0)
                      have h2 := f30.at h2 (mm_nc (Ne.symm n1) mm_n0)
                      have h3 := f30.at h3 (mm_nc (Ne.symm n2) mm_n0)
                      have h4 : M29 o = some (ia G k (upd (dg_go qj.1 r at_ i) (at_ + i) ((((qj.1 (i / 4)).toUInt32 >>> ((nI (24 - (8 * (i % 4)))).toUInt32 &&& Int32.toUInt32 31)).toInt32) &&& (nI 255)))) := g31
                      have hF := hF.tr f30 (mm_ic 3 rfl mm_i0)
                      refine lv_iinc (v := (nI (i + 1))) (lv' := [(5, .int (nI (i + 1))), (0, .ref h), (1, .ref o), (2, .int (nI at_))]) hx hb dX4_finish_115 hl (k := 3) rfl (by rw [show Int32.ofInt 1 = nI 1 from by decide]; exact nI_add _ _) (by decide) rfl (fun ls hl => ?_)
                      refine lv_goto (tgt := 78) hx hb dX4_finish_118 (by decide) ?_
                      exact ih (i + 1) _ H locs ls (by omega) (by omega) h1 h2 h3 h4 hF hR (lv_sub hl [1, 2, 3, 0] rfl)
                exact loopC 33 0 _ _ _ ls (by omega) (by omega) h1 h2 h3 h4 hF hR (lv_sub hl [1, 2, 3, 0] rfl)
              · skip
                have hj8 : j < 8 := Classical.byContradiction (fun z => c3 (by rw [show j = 8 by omega]; exact sf_8))
                refine lv_aload_n hx hb dX4_finish_56 rfl (lv_at hl 0 rfl) ?_
                refine lv_lload_n hx hb dX4_finish_57 rfl (lv_at hl 3 rfl) ?_
                refine lv_iload hx hb dX4_finish_58 (lv_at hl 4 rfl) ?_
                refine lv_lushr hx hb dX4_finish_60 rfl ?_
                refine lv_l2i hx hb dX4_finish_61 rfl ?_
                refine lv_sipush (v := nI 255) hx hb dX4_finish_62 (by decide) ?_
                refine lv_iand hx hb dX4_finish_65 ?_
                refine mm_callv hA hR (va_runV (As := [.int ((((bits.toUInt64 >>> ((sf j).toInt64.toUInt64 &&& Int64.toUInt64 63)).toInt64).toInt32) &&& (nI 255))]) (rest := []) S (c_X4_take l G M1 H.size h st w qj (t + 1 + (120 - q1.2.2) % 64 + j) (lb bits j) h1 h2 h3 hq) (cwV 1 S.2.2.2.2 gX4_finish_X4_take rfl rfl rfl (by decide +kernel) ⟨Nat.le_of_ble_eq_true rfl, Nat.le_of_ble_eq_true rfl⟩) (mm_preV hC hA hR _ h1 rfl) rfl rfl hl.1 rfl (lv_room (Nat.le_of_ble_eq_true rfl)) dX4_finish_66 ⟨Nat.le_of_ble_eq_true rfl, Nat.le_of_ble_eq_true rfl⟩) (fun M33 H locs hp hR => ?_)
                obtain ⟨⟨a1, a2, a3, a4⟩, ff⟩ := hp
                have h4 := ff.at h4 (mm_nc (Ne.symm n3) (mm_nc n1 (mm_nc n2 mm_n0)))
                have h1 : M33 h = some (ob 5 [.ref st, .ref w, .int (nI ((sh_take qj (lb bits j)).2.2)), .int (nI (t + 1 + (120 - q1.2.2) % 64 + j + 1))]) := a1
                have h2 : M33 st = some (ia G 8 ((sh_take qj (lb bits j)).1)) := a2
                have h3 : M33 w = some (ia G 64 ((sh_take qj (lb bits j)).2.1)) := a3
                have hF := hF.tr ff (mm_ic 0 rfl (mm_ic 1 rfl (mm_ic 2 rfl mm_i0)))
                refine lv_iinc (v := ((sf j) + Int32.ofInt (-8))) (lv' := [(5, .int ((sf j) + Int32.ofInt (-8))), (0, .ref h), (1, .ref o), (2, .int (nI at_)), (3, .long bits)]) hx hb dX4_finish_69 hl (k := 4) rfl rfl (by decide) rfl (fun ls hl => ?_)
                refine lv_goto (tgt := 51) hx hb dX4_finish_72 (by decide) ?_
                exact ih (j + 1) _ H locs ls (by omega) (by omega) (by show shA G _ h st w (sh_take (sh_takes qi (lb bits) j) (lb bits j)) (t + 1 + (120 - q1.2.2) % 64 + j + 1); rw [← eqj]; exact ⟨h1, h2, h3, a4⟩) h4 hF hR (lv_sub hl [1, 2, 3, 4, 0] rfl)
          exact loopB 9 0 _ _ _ ls (by omega) (by omega) ⟨h1, h2, h3, hq⟩ h4 hF hR (lv_sub hl [1, 2, 3, 4, 0] rfl)
        · have c2 : ¬ (qi.2.2 = 56) := fun z => c2 ((nI_eq (by omega) (by omega)).mpr z)
          refine lv_aload_n hx hb dX4_finish_36 rfl (lv_at hl 0 rfl) ?_
          refine lv_iconst (v := nI 0) hx hb dX4_finish_37 (by decide) ?_
          refine mm_callv hA hR (va_runV (As := [.int (nI 0)]) (rest := []) S (c_X4_take l G M1 H.size h st w qi (t + 1 + i) (nI 0) h1 h2 h3 hq) (cwV 1 S.2.2.2.2 gX4_finish_X4_take rfl rfl rfl (by decide +kernel) ⟨Nat.le_of_ble_eq_true rfl, Nat.le_of_ble_eq_true rfl⟩) (mm_preV hC hA hR _ h1 rfl) rfl rfl hl.1 rfl (lv_room (Nat.le_of_ble_eq_true rfl)) dX4_finish_38 ⟨Nat.le_of_ble_eq_true rfl, Nat.le_of_ble_eq_true rfl⟩) (fun M35 H locs hp hR => ?_)
          obtain ⟨⟨b1, b2, b3, b4⟩, ff⟩ := hp
          have h4 := ff.at h4 (mm_nc (Ne.symm n3) (mm_nc n1 (mm_nc n2 mm_n0)))
          have h1 : M35 h = some (ob 5 [.ref st, .ref w, .int (nI ((sh_take qi (nI 0)).2.2)), .int (nI (t + 1 + i + 1))]) := b1
          have h2 : M35 st = some (ia G 8 ((sh_take qi (nI 0)).1)) := b2
          have h3 : M35 w = some (ia G 64 ((sh_take qi (nI 0)).2.1)) := b3
          have hF := hF.tr ff (mm_ic 0 rfl (mm_ic 1 rfl (mm_ic 2 rfl mm_i0)))
          refine lv_iinc (v := (nI (i + 1))) (lv' := [(5, .int (nI (i + 1))), (0, .ref h), (1, .ref o), (2, .int (nI at_)), (3, .long bits)]) hx hb dX4_finish_41 hl (k := 4) rfl (by rw [show Int32.ofInt 1 = nI 1 from by decide]; exact nI_add _ _) (by decide) rfl (fun ls hl => ?_)
          refine lv_goto (tgt := 20) hx hb dX4_finish_44 (by decide) ?_
          exact ih (i + 1) _ H locs ls (by omega) (by omega) (by show shA G _ h st w (sh_take (sh_takes q1 (fun _ => nI 0) i) (nI 0)) (t + 1 + i + 1); rw [← eqi]; exact ⟨h1, h2, h3, b4⟩) h4 hF hR (lv_sub hl [1, 2, 3, 4, 0] rfl)
  exact loopA ((120 - q1.2.2) % 64 + 1) 0 _ _ _ ls (by omega) (by omega) ⟨h1, h2, h3, a4⟩ h4 hF hR (lv_sub hl [2, 3, 4, 1, 0] rfl)

set_option maxHeartbeats 4000000 in
set_option maxRecDepth 100000 in
/-- Sha256() -/
theorem c_X4_init (l : Launch) (G : mm_G) (M : mm_M) (sz : Nat) (h : Nat) (h1 : M h = some (ob 5 [.null, .null, .int (nI 0), .int (nI 0)]))  : mm_v l yX4_init wsX4_init ({ frames := 1, cells := 2, slots := 72, locals := 12 } : Room) G ([.ref h] : List Value) M sz (fun M' => ∃ st w, M st = none ∧ M w = none ∧ shA G M' h st w (fun _ => 0, fun _ => 0, 0) 0 ∧ mm_fr [h] M M') := by
  refine mm_enter (cc := cX4_init) (maxL := 1) (ret := none) _ (by decide) rfl (Nat.le_of_ble_eq_true rfl) ?_
  intro p e s m below meth c ls S hr hlocks hname hA hC hR hl
  have hx := S.1
  have hb := S.2.1
  have hl : lv_has ls 1 [(0, .ref h)] := hl
  have hin : meth.name = "<init>" := hname
  have inRX4 : ∀ w ∈ wsX40, w ∈ wsX4_init := by decide +kernel
  have hF : mm_fr [h] M M := mm_fr.rf
  refine lv_aload_n hx hb dX4_init_0 rfl (lv_at hl 0 rfl) ?_
  refine W.objInit hx hb S.2.2.2.1 (S.2.2.2.2 (.methodLink RX4 3 objectInit) (by decide +kernel)) (S.2.2.2.2 (.instanceMethod objectInit) (by decide +kernel)) (S.2.2.2.2 (.code objectInit ⟨#[0xb1]⟩ 1 none) (by decide +kernel)) rfl (by rw [S.2.2.1]; exact hl.1) rfl dX4_init_1 (Nat.le_of_ble_eq_true rfl) (Nat.le_of_ble_eq_true rfl) ?_
  refine W.eq (g2 := F0 m 4 ls []) rfl ?_
  refine lv_aload_n hx hb dX4_init_4 rfl (lv_at hl 0 rfl) ?_
  refine lv_bipush (v := nI 8) hx hb dX4_init_5 (by decide) ?_
  refine mm_newi S hC hA hR (by decide +kernel) (n := 8) (by omega) (Nat.le_of_ble_eq_true rfl) (Nat.le_of_ble_eq_true rfl) dX4_init_7 (fun st H M36 z38 h2 f37 hR => ?_)
  have n_h_st : h ≠ st := mm_nenew h1 z38
  have nn_st : M st = none := hF.none z38 (mm_oc h1 mm_o0)
  have h1 := f37.at h1 mm_n0
  have h2 : M36 st = some (ia G 8 (fun _ => 0)) := h2
  have hF := hF.tr f37 mm_i0
  refine mm_putF S hC hR (C := RX4) (T := TX4) (N := 4) (ref := "ForkWatch$Sha256") 0 h1 inRX4 rfl tyX4_ok nmX4 (by decide) (by decide +kernel) (fun _ h9 => h9) rfl hin rfl rfl rfl (Nat.le_of_ble_eq_true rfl) dX4_init_9 (fun H locs M39 g41 f40 hR => ?_)
  have h2 := f40.at h2 (mm_nc (Ne.symm n_h_st) mm_n0)
  have h1 : M39 h = some (ob 5 [.ref st, .null, .int (nI 0), .int (nI 0)]) := g41
  have hF := hF.tr f40 (mm_ic 0 rfl mm_i0)
  refine lv_aload_n hx hb dX4_init_12 rfl (lv_at hl 0 rfl) ?_
  refine lv_bipush (v := nI 64) hx hb dX4_init_13 (by decide) ?_
  refine mm_newi S hC hA hR (by decide +kernel) (n := 64) (by omega) (Nat.le_of_ble_eq_true rfl) (Nat.le_of_ble_eq_true rfl) dX4_init_15 (fun w H M42 z44 h3 f43 hR => ?_)
  have n_h_w : h ≠ w := mm_nenew h1 z44
  have n_st_w : st ≠ w := mm_nenew h2 z44
  have nn_w : M w = none := hF.none z44 (mm_oc h1 mm_o0)
  have h1 := f43.at h1 mm_n0
  have h2 := f43.at h2 mm_n0
  have h3 : M42 w = some (ia G 64 (fun _ => 0)) := h3
  have hF := hF.tr f43 mm_i0
  refine mm_putF S hC hR (C := RX4) (T := TX4) (N := 4) (ref := "ForkWatch$Sha256") 1 h1 inRX4 rfl tyX4_ok nmX4 (by decide) (by decide +kernel) (fun _ h9 => h9) rfl hin rfl rfl rfl (Nat.le_of_ble_eq_true rfl) dX4_init_17 (fun H locs M45 g47 f46 hR => ?_)
  have h2 := f46.at h2 (mm_nc (Ne.symm n_h_st) mm_n0)
  have h3 := f46.at h3 (mm_nc (Ne.symm n_h_w) mm_n0)
  have h1 : M45 h = some (ob 5 [.ref st, .ref w, .int (nI 0), .int (nI 0)]) := g47
  have hF := hF.tr f46 (mm_ic 0 rfl mm_i0)
  refine lv_aload_n hx hb dX4_init_20 rfl (lv_at hl 0 rfl) ?_
  refine lv_iconst (v := nI 0) hx hb dX4_init_21 (by decide) ?_
  refine mm_put S hC hR (C := RX4) (T := TX4) (N := 4) (ref := "ForkWatch$Sha256") 2 h1 inRX4 rfl tyX4_ok nmX4 (by decide) (by decide +kernel) (fun _ h9 => h9) rfl rfl rfl (Nat.le_of_ble_eq_true rfl) dX4_init_22 (fun H locs M48 g50 f49 hR => ?_)
  have h2 := f49.at h2 (mm_nc (Ne.symm n_h_st) mm_n0)
  have h3 := f49.at h3 (mm_nc (Ne.symm n_h_w) mm_n0)
  have h1 : M48 h = some (ob 5 [.ref st, .ref w, .int (nI 0), .int (nI 0)]) := g50
  have hF := hF.tr f49 (mm_ic 0 rfl mm_i0)
  refine lv_aload_n hx hb dX4_init_25 rfl (lv_at hl 0 rfl) ?_
  refine lv_iconst (v := nI 0) hx hb dX4_init_26 (by decide) ?_
  refine mm_put S hC hR (C := RX4) (T := TX4) (N := 4) (ref := "ForkWatch$Sha256") 3 h1 inRX4 rfl tyX4_ok nmX4 (by decide) (by decide +kernel) (fun _ h9 => h9) rfl rfl rfl (Nat.le_of_ble_eq_true rfl) dX4_init_27 (fun H locs M51 g53 f52 hR => ?_)
  have h2 := f52.at h2 (mm_nc (Ne.symm n_h_st) mm_n0)
  have h3 := f52.at h3 (mm_nc (Ne.symm n_h_w) mm_n0)
  have h1 : M51 h = some (ob 5 [.ref st, .ref w, .int (nI 0), .int (nI 0)]) := g53
  have hF := hF.tr f52 (mm_ic 0 rfl mm_i0)
  exact mm_vret S hr hlocks hR ⟨st, w, nn_st, nn_w, ⟨h1, h2, h3, by decide⟩, hF⟩ dX4_init_30
