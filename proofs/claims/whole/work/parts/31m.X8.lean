/-- addresses in use under their numbers: all differ, all hold something, all but the first are new since M0 -/
def al (M0 : mm_M) (D : Nat → Prop) (ad : Nat → Nat) (M : mm_M) : Prop := (∀ r r', D r → D r' → ad r = ad r' → r = r') ∧ (∀ r, D r → M (ad r) ≠ none) ∧ ∀ r, D r → r ≠ 0 → M0 (ad r) = none
theorem al.one {M0 M : mm_M} {X : Nat} {e : va_E} (h : M X = some e) : al M0 (fun r => r = 0) (fun _ => X) M := ⟨fun r r' a b _ => a.trans b.symm, (fun _ _ z => by rw [h] at z; cases z), fun r a b => absurd a b⟩
theorem al.mv {M0 M M' : mm_M} {D : Nat → Prop} {ad : Nat → Nat} {L : List Nat} (h : al M0 D ad M) (ff : mm_fr L M M') (hL : ∀ a, a ∈ L → M' a ≠ none) : al M0 D ad M' := by
  refine ⟨h.1, fun r hr => ?_, h.2.2⟩
  by_cases e : ad r ∈ L
  · exact hL _ e
  · cases hM : M (ad r) with
    | none => exact absurd hM (h.2.1 r hr)
    | some z => rw [ff _ z hM e]; exact fun y => by cases y
theorem al.ne {M0 M : mm_M} {D : Nat → Prop} {ad : Nat → Nat} {q : Nat} (h : al M0 D ad M) (hq : M q = none) : ∀ r, D r → ad r ≠ q := fun r hr e => h.2.1 r hr (by rw [e]; exact hq)
theorem al.ins {M0 M : mm_M} {D : Nat → Prop} {ad : Nat → Nat} {k q : Nat} (h : al M0 D ad M) (hk : ¬ D k) (hq : M q ≠ none) (h0 : M0 q = none) (hn : ∀ r, D r → ad r ≠ q) : al M0 (fun r => D r ∨ r = k) (upN ad k q) M := by
  have s : upN ad k q k = q := if_pos rfl
  have o : ∀ r, r ≠ k → upN ad k q r = ad r := fun r hr => if_neg hr
  have c : ∀ r, (D r ∨ r = k) → r = k ∨ (D r ∧ r ≠ k ∧ upN ad k q r = ad r) := fun r hr => by
    by_cases e : r = k
    · exact Or.inl e
    · exact Or.inr ⟨hr.resolve_right e, e, o r e⟩
  refine ⟨fun r r' hr hr' e => ?_, fun r hr => ?_, fun r hr hz => ?_⟩
  · rcases c r hr with a | ⟨a, -, a2⟩ <;> rcases c r' hr' with b | ⟨b, -, b2⟩
    · rw [a, b]
    · rw [a, s, b2] at e; exact absurd e.symm (hn r' b)
    · rw [b, s, a2] at e; exact absurd e (hn r a)
    · rw [a2, b2] at e; exact h.1 r r' a b e
  · rcases c r hr with a | ⟨a, -, a2⟩
    · rw [a, s]; exact hq
    · rw [a2]; exact h.2.1 r a
  · rcases c r hr with a | ⟨a, -, a2⟩
    · rw [a, s]; exact h0
    · rw [a2]; exact h.2.2 r a hz
theorem al_ne2 {D : Nat → Prop} {ad : Nat → Nat} {k q q2 : Nat} (hn : ∀ r, D r → ad r ≠ q2) (h : q ≠ q2) : ∀ r, (D r ∨ r = k) → upN ad k q r ≠ q2 := fun r hr => by
  by_cases e : r = k
  · unfold upN
    rw [if_pos e]
    exact h
  · unfold upN
    rw [if_neg e]
    exact hn r (hr.resolve_right e)
theorem al.insW {M0 M : mm_M} {D : Nat → Prop} {ad wd : Nat → Nat} (h : al M0 D ad M) (hI : woI wd) (hk : ∀ r, D r → r < 100) (hn : ∀ i, i < 15 → ∀ r, D r → ad r ≠ wd i) (hM : ∀ i, i < 15 → M (wd i) ≠ none) (h0 : ∀ i, i < 15 → M0 (wd i) = none) : al M0 (fun r => D r ∨ (100 ≤ r ∧ r < 115)) (adW ad wd 0) M := by
  have c : ∀ r, (D r ∨ (100 ≤ r ∧ r < 115)) → (∃ i, i < 15 ∧ r = 100 + i ∧ adW ad wd 0 r = wd i) ∨ (D r ∧ adW ad wd 0 r = ad r) := fun r hr => by
    by_cases e : 100 ≤ r ∧ r < 115
    · refine Or.inl ⟨r - 100, by omega, by omega, ?_⟩
      have z := adW_w (ad := ad) (wd := wd) (nw := 0) (i := r - 100) (by omega)
      rw [show 100 + 15 * 0 + (r - 100) = r by omega] at z
      exact z
    · exact Or.inr ⟨hr.resolve_right e, adW_o (by have := hk r (hr.resolve_right e); omega)⟩
  refine ⟨fun r r' hr hr' e => ?_, fun r hr => ?_, fun r hr hz => ?_⟩
  · rcases c r hr with ⟨i, hi, a, a2⟩ | ⟨a, a2⟩ <;> rcases c r' hr' with ⟨j, hj, b, b2⟩ | ⟨b, b2⟩
    · rw [a2, b2] at e
      have := hI i j hi hj e
      omega
    · rw [a2, b2] at e; exact absurd e.symm (hn i hi r' b)
    · rw [a2, b2] at e; exact absurd e (hn j hj r a)
    · rw [a2, b2] at e; exact h.1 r r' a b e
  · rcases c r hr with ⟨i, hi, a, a2⟩ | ⟨a, a2⟩
    · rw [a2]; exact hM i hi
    · rw [a2]; exact h.2.1 r a
  · rcases c r hr with ⟨i, hi, a, a2⟩ | ⟨a, a2⟩
    · rw [a2]; exact h0 i hi
    · rw [a2]; exact h.2.2 r a hz
theorem mm_some {M : mm_M} {a : Nat} {e : va_E} (h : M a = some e) : M a ≠ none := by rw [h]; exact fun z => by cases z
theorem woA.has {G : mm_G} {M : mm_M} {wd : Nat → Nat} {st : Nat → Nat → Int32} {fc fl tn : Nat → Int32} (h : woA G M wd st fc fl tn) : ∀ i, i < 15 → M (wd i) ≠ none := by
  intro i hi
  obtain ⟨h0, ⟨tf, h1, -⟩, hs, h2, h3, h4, h5, h6⟩ := h
  rcases (show i = 0 ∨ i = 1 ∨ i = 2 ∨ i = 3 ∨ i = 4 ∨ i = 5 ∨ i = 6 ∨ 7 ≤ i by omega) with e | e | e | e | e | e | e | e
  · subst e; exact mm_some h0
  · subst e; exact mm_some h1
  · subst e; exact mm_some h2
  · subst e; exact mm_some h3
  · subst e; exact mm_some h4
  · subst e; exact mm_some h5
  · subst e; exact mm_some h6
  · have hh := hs ((i - 7) / 2) (by omega)
    by_cases y : (i - 7) % 2 = 0
    · have := hh.1
      rw [show 7 + 2 * ((i - 7) / 2) = i by omega] at this
      exact mm_some this
    · have := hh.2
      rw [show 8 + 2 * ((i - 7) / 2) = i by omega] at this
      exact mm_some this

set_option maxHeartbeats 4000000 in
set_option maxRecDepth 100000 in
/-- ForkWatch() -/
theorem c_X8_init (l : Launch) (G : mm_G) (M : mm_M) (sz : Nat) (X : Nat) (hX : M X = some (ob 9 [.null, .null, .null, .null, .null, .null, .null, .int (nI 0), .null, .int (nI 0), .null, .int (nI 0), .int (nI 0), .int (nI 0)]))  : mm_v l yX8_init wsX8_init ({ frames := 8, cells := 44, slots := 3447, locals := 280 } : Room) G ([.ref X] : List Value) M sz (fun M' => ∃ (ad : Nat → Nat) (tn0 : Nat → Int32), ad 0 = X ∧ xI ad 1 0 ∧ ad 18 = G.2.2.2.2.1 ∧ (∀ r, xD 1 0 r → r ≠ 0 → M (ad r) = none) ∧ tOK (fun _ => 0) (fun _ => 0) tn0 (fun _ => 0) ∧ xA G M' ad (0 : Nat) (0 : Nat) (nI 0) (nI 0) (nI 0) (fun _ => 0) (fun _ => 0) (fun _ => 0) (fun c => sgn tn0 (s0 c)) 1 (fun _ c => va_cpy (sgn tn0 (s0 c)) (s0 c) 0 0 84) (fun _ _ => 0) (fun _ _ => 0) (fun _ => tn0) (fun _ _ => 0) 0 (fun _ => (0, 0, 0, 0, 0, fun _ => 0)) (fun _ => 0) ∧ mm_fr [X] M M') := by
  refine mm_enter (cc := cX8_init) (maxL := 3) (ret := none) _ (by decide) rfl (Nat.le_of_ble_eq_true rfl) ?_
  intro p0 e0 s m0 be0 me0 c0 ls S hr hlocks hname hA hC hR hl
  have hx := S.1
  have hb := S.2.1
  have hl : lv_has ls 3 [(0, .ref X)] := hl
  have hin : me0.name = "<init>" := hname
  have inRJx4a65c : ∀ w ∈ wsJx4a65c0, w ∈ wsX8_init := by decide +kernel
  have inRX0 : ∀ w ∈ wsX00, w ∈ wsX8_init := by decide +kernel
  have inRX1 : ∀ w ∈ wsX10, w ∈ wsX8_init := by decide +kernel
  have inRX2 : ∀ w ∈ wsX20, w ∈ wsX8_init := by decide +kernel
  have inRX4 : ∀ w ∈ wsX40, w ∈ wsX8_init := by decide +kernel
  have inRX5 : ∀ w ∈ wsX50, w ∈ wsX8_init := by decide +kernel
  have inRX6 : ∀ w ∈ wsX60, w ∈ wsX8_init := by decide +kernel
  have inRX7 : ∀ w ∈ wsX70, w ∈ wsX8_init := by decide +kernel
  have inRX8 : ∀ w ∈ wsX80, w ∈ wsX8_init := by decide +kernel
  have hF : mm_fr [X] M M := mm_fr.rf
  have hal := al.one (M0 := M) hX
  refine lv_aload_n hx hb dX8_init_0 rfl (lv_at hl 0 rfl) ?_
  refine W.objInit hx hb S.2.2.2.1 (S.2.2.2.2 (.methodLink RX8 1 objectInit) (by decide +kernel)) (S.2.2.2.2 (.instanceMethod objectInit) (by decide +kernel)) (S.2.2.2.2 (.code objectInit ⟨#[0xb1]⟩ 1 none) (by decide +kernel)) rfl (by rw [S.2.2.1]; exact hl.1) rfl dX8_init_1 (Nat.le_of_ble_eq_true rfl) (Nat.le_of_ble_eq_true rfl) ?_
  refine W.eq (g2 := F0 m0 4 ls []) rfl ?_
  refine lv_aload_n hx hb dX8_init_4 rfl (lv_at hl 0 rfl) ?_
  refine mm_new (fs := [.null, .null, .int (nI 0), .int (nI 0)]) S hC hA hR (C := RX4) (T := TX4) (N := 4) (ci := 5) inRX4 rfl tyX4_ok (by decide +kernel) (by decide +kernel) (by decide +kernel) (fun j hj => by rcases (show j = 0 ∨ j = 1 ∨ j = 2 ∨ j = 3 by omega) with rfl | rfl | rfl | rfl <;> rfl) (Nat.le_of_ble_eq_true rfl) (Nat.le_of_ble_eq_true rfl) dX8_init_5 (fun sh H M1 z3 hs1 f2 hR => ?_)
  have n_X_sh : dif X sh := mm_nenew hX z3
  have nn_sh : M sh = none := hF.none z3 (mm_oc hX mm_o0)
  have hX := f2.at hX mm_n0
  have hs1 : M1 sh = some (ob 5 [.null, .null, .int (nI 0), .int (nI 0)]) := hs1
  have hF := hF.tr f2 mm_i0
  have hal0 := hal
  have hal := hal.mv f2 mm_o0
  have hal := hal.ins (k := 1) (by first | omega | (dsimp only; omega)) (mm_some hs1) nn_sh (hal0.ne z3)
  refine lv_dup hx hb dX8_init_8 rfl ?_
  refine mm_callv hA hR (va_runIN (As := []) (rest := [.ref sh, .ref X]) S (c_X4_init l G M1 _ sh hs1) ⟨va_cnB 0 S.2.2.2.2 gX8_init_X4_init_n9 rfl rfl rfl (hC.2.2.2.2.2 (.methodLinkNest RX8 9 yX4_init "ForkWatch") (by decide +kernel)) (S.2.2.2.2 (.initialized RX4) (by decide +kernel)) (by decide +kernel) ⟨Nat.le_of_ble_eq_true rfl, Nat.le_of_ble_eq_true rfl⟩, rfl, S.2.2.2.2 (.instanceMethod yX4_init) (by decide +kernel)⟩ (mm_preS hC hA hR _) rfl rfl hl.1 rfl (lv_room (Nat.le_of_ble_eq_true rfl)) dX8_init_9 ⟨Nat.le_of_ble_eq_true rfl, Nat.le_of_ble_eq_true rfl⟩) (fun M5 H locs hp hR => ?_)
  obtain ⟨s2, s3, y2, y3, ⟨e1, e2, e3, -⟩, ff⟩ := hp
  have n_X_s2 : dif X s2 := mm_nenew hX y2
  have n_sh_s2 : dif sh s2 := mm_nenew hs1 y2
  have nn_s2 : M s2 = none := hF.none y2 (mm_oc hX mm_o0)
  have n_X_s3 : dif X s3 := mm_nenew hX y3
  have n_sh_s3 : dif sh s3 := mm_nenew hs1 y3
  have nn_s3 : M s3 = none := hF.none y3 (mm_oc hX mm_o0)
  have n_s2_s3 : dif s2 s3 := mm_nelen e2 e3 (by decide)
  have hX := ff.at hX (mm_nc n_X_sh mm_n0)
  have hs1 : M5 sh = some (ob 5 [.ref s2, .ref s3, .int (nI 0), .int (nI 0)]) := e1
  have hs2 : M5 s2 = some (ia G 8 (fun _ => 0)) := e2
  have hs3 : M5 s3 = some (ia G 64 (fun _ => 0)) := e3
  have hF := hF.tr ff (mm_in nn_sh mm_i0)
  have hal0 := hal
  have hal := hal.mv ff (mm_oc hs1 mm_o0)
  have hal := hal.ins (k := 2) (by first | omega | (dsimp only; omega)) (mm_some hs2) nn_s2 (hal0.ne y2)
  have hal := hal.ins (k := 3) (by first | omega | (dsimp only; omega)) (mm_some hs3) nn_s3 (al_ne2 (hal0.ne y3) n_s2_s3)
  refine mm_putF S hC hR (C := RX8) (T := TX8) (N := 14) (ref := "ForkWatch") 0 hX inRX8 rfl tyX8_ok nmX8 (by decide) (by decide +kernel) (fun _ h9 => h9) rfl hin rfl rfl rfl (Nat.le_of_ble_eq_true rfl) dX8_init_12 (fun H locs M6 g8 f7 hR => ?_)
  have hs1 := f7.at hs1 (mm_nc (Ne.symm n_X_sh) mm_n0)
  have hs2 := f7.at hs2 (mm_nc (Ne.symm n_X_s2) mm_n0)
  have hs3 := f7.at hs3 (mm_nc (Ne.symm n_X_s3) mm_n0)
  have hX : M6 X = some (ob 9 [.ref sh, .null, .null, .null, .null, .null, .null, .int (nI 0), .null, .int (nI 0), .null, .int (nI 0), .int (nI 0), .int (nI 0)]) := g8
  have hF := hF.tr f7 (mm_ic 0 rfl mm_i0)
  have hal0 := hal
  have hal := hal.mv f7 (mm_oc hX mm_o0)
  refine lv_aload_n hx hb dX8_init_15 rfl (lv_at hl 0 rfl) ?_
  refine mm_new (fs := [.null, .null]) S hC hA hR (C := RX2) (T := TX2) (N := 2) (ci := 3) inRX2 rfl tyX2_ok (by decide +kernel) (by decide +kernel) (by decide +kernel) (fun j hj => by rcases (show j = 0 ∨ j = 1 by omega) with rfl | rfl <;> rfl) (Nat.le_of_ble_eq_true rfl) (Nat.le_of_ble_eq_true rfl) dX8_init_16 (fun mc H M9 z11 hm0 f10 hR => ?_)
  have n_X_mc : dif X mc := mm_nenew hX z11
  have n_sh_mc : dif sh mc := mm_nenew hs1 z11
  have n_s2_mc : dif s2 mc := mm_nenew hs2 z11
  have n_s3_mc : dif s3 mc := mm_nenew hs3 z11
  have nn_mc : M mc = none := hF.none z11 (mm_oc hX mm_o0)
  have hX := f10.at hX mm_n0
  have hs1 := f10.at hs1 mm_n0
  have hs2 := f10.at hs2 mm_n0
  have hs3 := f10.at hs3 mm_n0
  have hm0 : M9 mc = some (ob 3 [.null, .null]) := hm0
  have hF := hF.tr f10 mm_i0
  have hal0 := hal
  have hal := hal.mv f10 mm_o0
  have hal := hal.ins (k := 4) (by first | omega | (dsimp only; omega)) (mm_some hm0) nn_mc (hal0.ne z11)
  refine lv_dup hx hb dX8_init_19 rfl ?_
  refine mm_callv hA hR (va_runIN (As := []) (rest := [.ref mc, .ref X]) S (c_X2_init l G M9 _ mc hm0) ⟨va_cnB 0 S.2.2.2.2 gX8_init_X2_init_n18 rfl rfl rfl (hC.2.2.2.2.2 (.methodLinkNest RX8 18 yX2_init "ForkWatch") (by decide +kernel)) (S.2.2.2.2 (.initialized RX2) (by decide +kernel)) (by decide +kernel) ⟨Nat.le_of_ble_eq_true rfl, Nat.le_of_ble_eq_true rfl⟩, rfl, S.2.2.2.2 (.instanceMethod yX2_init) (by decide +kernel)⟩ (mm_preS hC hA hR _) rfl rfl hl.1 rfl (lv_room (Nat.le_of_ble_eq_true rfl)) dX8_init_20 ⟨Nat.le_of_ble_eq_true rfl, Nat.le_of_ble_eq_true rfl⟩) (fun M13 H locs hp hR => ?_)
  obtain ⟨m5, m6, m7, m8, y5, y6, y7, y8, n_m6_m7, n_m6_m8, n_m7_m8, ⟨e1, ⟨qf, qg, qa, qb, e2, e3, e4⟩, qi, e5⟩, ff⟩ := hp
  have n_X_m5 : dif X m5 := mm_nenew hX y5
  have n_sh_m5 : dif sh m5 := mm_nenew hs1 y5
  have n_s2_m5 : dif s2 m5 := mm_nenew hs2 y5
  have n_s3_m5 : dif s3 m5 := mm_nenew hs3 y5
  have n_mc_m5 : dif mc m5 := mm_nenew hm0 y5
  have nn_m5 : M m5 = none := hF.none y5 (mm_oc hX mm_o0)
  have n_X_m6 : dif X m6 := mm_nenew hX y6
  have n_sh_m6 : dif sh m6 := mm_nenew hs1 y6
  have n_s2_m6 : dif s2 m6 := mm_nenew hs2 y6
  have n_s3_m6 : dif s3 m6 := mm_nenew hs3 y6
  have n_mc_m6 : dif mc m6 := mm_nenew hm0 y6
  have nn_m6 : M m6 = none := hF.none y6 (mm_oc hX mm_o0)
  have n_X_m7 : dif X m7 := mm_nenew hX y7
  have n_sh_m7 : dif sh m7 := mm_nenew hs1 y7
  have n_s2_m7 : dif s2 m7 := mm_nenew hs2 y7
  have n_s3_m7 : dif s3 m7 := mm_nenew hs3 y7
  have n_mc_m7 : dif mc m7 := mm_nenew hm0 y7
  have nn_m7 : M m7 = none := hF.none y7 (mm_oc hX mm_o0)
  have n_X_m8 : dif X m8 := mm_nenew hX y8
  have n_sh_m8 : dif sh m8 := mm_nenew hs1 y8
  have n_s2_m8 : dif s2 m8 := mm_nenew hs2 y8
  have n_s3_m8 : dif s3 m8 := mm_nenew hs3 y8
  have n_mc_m8 : dif mc m8 := mm_nenew hm0 y8
  have nn_m8 : M m8 = none := hF.none y8 (mm_oc hX mm_o0)
  have hX := ff.at hX (mm_nc n_X_mc mm_n0)
  have hs1 := ff.at hs1 (mm_nc n_sh_mc mm_n0)
  have hs2 := ff.at hs2 (mm_nc n_s2_mc mm_n0)
  have hs3 := ff.at hs3 (mm_nc n_s3_mc mm_n0)
  have hm0 : M13 mc = some (ob 3 [.ref m5, .ref m8]) := e1
  have hm5 : M13 m5 = some (ob 5 [.ref m6, .ref m7, .int qa, .int qb]) := e2
  have hm6 : M13 m6 = some (ia G 8 qf) := e3
  have hm7 : M13 m7 = some (ia G 64 qg) := e4
  have hm8 : M13 m8 = some (ia G 32 qi) := e5
  have hF := hF.tr ff (mm_in nn_mc mm_i0)
  have hal0 := hal
  have hal := hal.mv ff (mm_oc hm0 mm_o0)
  have hal := hal.ins (k := 5) (by first | omega | (dsimp only; omega)) (mm_some hm5) nn_m5 (hal0.ne y5)
  have hal := hal.ins (k := 6) (by first | omega | (dsimp only; omega)) (mm_some hm6) nn_m6 (al_ne2 (hal0.ne y6) (mm_neoi hm5 hm6))
  have hal := hal.ins (k := 7) (by first | omega | (dsimp only; omega)) (mm_some hm7) nn_m7 (al_ne2 (al_ne2 (hal0.ne y7) (mm_neoi hm5 hm7)) n_m6_m7)
  have hal := hal.ins (k := 8) (by first | omega | (dsimp only; omega)) (mm_some hm8) nn_m8 (al_ne2 (al_ne2 (al_ne2 (hal0.ne y8) (mm_neoi hm5 hm8)) n_m6_m8) n_m7_m8)
  refine mm_putF S hC hR (C := RX8) (T := TX8) (N := 14) (ref := "ForkWatch") 1 hX inRX8 rfl tyX8_ok nmX8 (by decide) (by decide +kernel) (fun _ h9 => h9) rfl hin rfl rfl rfl (Nat.le_of_ble_eq_true rfl) dX8_init_23 (fun H locs M14 g16 f15 hR => ?_)
  have hs1 := f15.at hs1 (mm_nc (Ne.symm n_X_sh) mm_n0)
  have hs2 := f15.at hs2 (mm_nc (Ne.symm n_X_s2) mm_n0)
  have hs3 := f15.at hs3 (mm_nc (Ne.symm n_X_s3) mm_n0)
  have hm0 := f15.at hm0 (mm_nc (Ne.symm n_X_mc) mm_n0)
  have hm5 := f15.at hm5 (mm_nc (Ne.symm n_X_m5) mm_n0)
  have hm6 := f15.at hm6 (mm_nc (Ne.symm n_X_m6) mm_n0)
  have hm7 := f15.at hm7 (mm_nc (Ne.symm n_X_m7) mm_n0)
  have hm8 := f15.at hm8 (mm_nc (Ne.symm n_X_m8) mm_n0)
  have hX : M14 X = some (ob 9 [.ref sh, .ref mc, .null, .null, .null, .null, .null, .int (nI 0), .null, .int (nI 0), .null, .int (nI 0), .int (nI 0), .int (nI 0)]) := g16
  have hF := hF.tr f15 (mm_ic 0 rfl mm_i0)
  have hal0 := hal
  have hal := hal.mv f15 (mm_oc hX mm_o0)
  refine lv_aload_n hx hb dX8_init_26 rfl (lv_at hl 0 rfl) ?_
  refine lv_bipush (v := nI 32) hx hb dX8_init_27 (by decide) ?_
  refine mm_newi S hC hA hR (by decide +kernel) (n := 32) (by omega) (Nat.le_of_ble_eq_true rfl) (Nat.le_of_ble_eq_true rfl) dX8_init_29 (fun dg H M17 z19 hdg f18 hR => ?_)
  have n_X_dg : dif X dg := mm_nenew hX z19
  have n_sh_dg : dif sh dg := mm_nenew hs1 z19
  have n_s2_dg : dif s2 dg := mm_nenew hs2 z19
  have n_s3_dg : dif s3 dg := mm_nenew hs3 z19
  have n_mc_dg : dif mc dg := mm_nenew hm0 z19
  have n_m5_dg : dif m5 dg := mm_nenew hm5 z19
  have n_m6_dg : dif m6 dg := mm_nenew hm6 z19
  have n_m7_dg : dif m7 dg := mm_nenew hm7 z19
  have n_m8_dg : dif m8 dg := mm_nenew hm8 z19
  have nn_dg : M dg = none := hF.none z19 (mm_oc hX mm_o0)
  have hX := f18.at hX mm_n0
  have hs1 := f18.at hs1 mm_n0
  have hs2 := f18.at hs2 mm_n0
  have hs3 := f18.at hs3 mm_n0
  have hm0 := f18.at hm0 mm_n0
  have hm5 := f18.at hm5 mm_n0
  have hm6 := f18.at hm6 mm_n0
  have hm7 := f18.at hm7 mm_n0
  have hm8 := f18.at hm8 mm_n0
  have hdg : M17 dg = some (ia G 32 (fun _ => 0)) := hdg
  have hF := hF.tr f18 mm_i0
  have hal0 := hal
  have hal := hal.mv f18 mm_o0
  have hal := hal.ins (k := 9) (by first | omega | (dsimp only; omega)) (mm_some hdg) nn_dg (hal0.ne z19)
  refine mm_putF S hC hR (C := RX8) (T := TX8) (N := 14) (ref := "ForkWatch") 2 hX inRX8 rfl tyX8_ok nmX8 (by decide) (by decide +kernel) (fun _ h9 => h9) rfl hin rfl rfl rfl (Nat.le_of_ble_eq_true rfl) dX8_init_31 (fun H locs M20 g22 f21 hR => ?_)
  have hs1 := f21.at hs1 (mm_nc (Ne.symm n_X_sh) mm_n0)
  have hs2 := f21.at hs2 (mm_nc (Ne.symm n_X_s2) mm_n0)
  have hs3 := f21.at hs3 (mm_nc (Ne.symm n_X_s3) mm_n0)
  have hm0 := f21.at hm0 (mm_nc (Ne.symm n_X_mc) mm_n0)
  have hm5 := f21.at hm5 (mm_nc (Ne.symm n_X_m5) mm_n0)
  have hm6 := f21.at hm6 (mm_nc (Ne.symm n_X_m6) mm_n0)
  have hm7 := f21.at hm7 (mm_nc (Ne.symm n_X_m7) mm_n0)
  have hm8 := f21.at hm8 (mm_nc (Ne.symm n_X_m8) mm_n0)
  have hdg := f21.at hdg (mm_nc (Ne.symm n_X_dg) mm_n0)
  have hX : M20 X = some (ob 9 [.ref sh, .ref mc, .ref dg, .null, .null, .null, .null, .int (nI 0), .null, .int (nI 0), .null, .int (nI 0), .int (nI 0), .int (nI 0)]) := g22
  have hF := hF.tr f21 (mm_ic 0 rfl mm_i0)
  have hal0 := hal
  have hal := hal.mv f21 (mm_oc hX mm_o0)
  refine lv_aload_n hx hb dX8_init_34 rfl (lv_at hl 0 rfl) ?_
  refine mm_new (fs := [.int (nI 0), .null, .int (nI 0)]) S hC hA hR (C := RJx4a65c) (T := TJx4a65c) (N := 3) (ci := 0) inRJx4a65c rfl tyJx4a65c_ok (by decide +kernel) (by decide +kernel) (by decide +kernel) (fun j hj => by rcases (show j = 0 ∨ j = 1 ∨ j = 2 by omega) with rfl | rfl | rfl <;> rfl) (Nat.le_of_ble_eq_true rfl) (Nat.le_of_ble_eq_true rfl) dX8_init_35 (fun wl H M23 z25 hwl f24 hR => ?_)
  have n_X_wl : dif X wl := mm_nenew hX z25
  have n_sh_wl : dif sh wl := mm_nenew hs1 z25
  have n_s2_wl : dif s2 wl := mm_nenew hs2 z25
  have n_s3_wl : dif s3 wl := mm_nenew hs3 z25
  have n_mc_wl : dif mc wl := mm_nenew hm0 z25
  have n_m5_wl : dif m5 wl := mm_nenew hm5 z25
  have n_m6_wl : dif m6 wl := mm_nenew hm6 z25
  have n_m7_wl : dif m7 wl := mm_nenew hm7 z25
  have n_m8_wl : dif m8 wl := mm_nenew hm8 z25
  have n_dg_wl : dif dg wl := mm_nenew hdg z25
  have nn_wl : M wl = none := hF.none z25 (mm_oc hX mm_o0)
  have hX := f24.at hX mm_n0
  have hs1 := f24.at hs1 mm_n0
  have hs2 := f24.at hs2 mm_n0
  have hs3 := f24.at hs3 mm_n0
  have hm0 := f24.at hm0 mm_n0
  have hm5 := f24.at hm5 mm_n0
  have hm6 := f24.at hm6 mm_n0
  have hm7 := f24.at hm7 mm_n0
  have hm8 := f24.at hm8 mm_n0
  have hdg := f24.at hdg mm_n0
  have hwl : M23 wl = some (ob 0 [.int (nI 0), .null, .int (nI 0)]) := hwl
  have hF := hF.tr f24 mm_i0
  have hal0 := hal
  have hal := hal.mv f24 mm_o0
  have hal := hal.ins (k := 10) (by first | omega | (dsimp only; omega)) (mm_some hwl) nn_wl (hal0.ne z25)
  refine lv_dup hx hb dX8_init_38 rfl ?_
  refine mm_callv hA hR (va_runI (As := []) (rest := [.ref wl, .ref X]) S (c_Jx4a65c_init_da8c8 l G M23 _ wl hwl) (cwI 0 S.2.2.2.2 gX8_init_Jx4a65c_init_da8c8 rfl rfl rfl (S.2.2.2.2 (.initialized RJx4a65c) (by decide +kernel)) (S.2.2.2.2 (.methodLink RX8 29 yJx4a65c_init_da8c8) (by decide +kernel)) (S.2.2.2.2 (.instanceMethod yJx4a65c_init_da8c8) (by decide +kernel)) rfl (by decide +kernel) ⟨Nat.le_of_ble_eq_true rfl, Nat.le_of_ble_eq_true rfl⟩) (mm_preS hC hA hR _) rfl rfl hl.1 rfl (lv_room (Nat.le_of_ble_eq_true rfl)) dX8_init_39 ⟨Nat.le_of_ble_eq_true rfl, Nat.le_of_ble_eq_true rfl⟩) (fun M27 H locs hp hR => ?_)
  obtain ⟨e1, ff⟩ := hp
  have hX := ff.at hX (mm_nc n_X_wl mm_n0)
  have hs1 := ff.at hs1 (mm_nc n_sh_wl mm_n0)
  have hs2 := ff.at hs2 (mm_nc n_s2_wl mm_n0)
  have hs3 := ff.at hs3 (mm_nc n_s3_wl mm_n0)
  have hm0 := ff.at hm0 (mm_nc n_mc_wl mm_n0)
  have hm5 := ff.at hm5 (mm_nc n_m5_wl mm_n0)
  have hm6 := ff.at hm6 (mm_nc n_m6_wl mm_n0)
  have hm7 := ff.at hm7 (mm_nc n_m7_wl mm_n0)
  have hm8 := ff.at hm8 (mm_nc n_m8_wl mm_n0)
  have hdg := ff.at hdg (mm_nc n_dg_wl mm_n0)
  have hwl : M27 wl = some (ob 0 [.int (nI 0), .ref G.2.2.2.2.1, .int (nI 0)]) := e1
  have hF := hF.tr ff (mm_in nn_wl mm_i0)
  have hal0 := hal
  have hal := hal.mv ff (mm_oc hwl mm_o0)
  refine mm_putF S hC hR (C := RX8) (T := TX8) (N := 14) (ref := "ForkWatch") 3 hX inRX8 rfl tyX8_ok nmX8 (by decide) (by decide +kernel) (fun _ h9 => h9) rfl hin rfl rfl rfl (Nat.le_of_ble_eq_true rfl) dX8_init_42 (fun H locs M28 g30 f29 hR => ?_)
  have hs1 := f29.at hs1 (mm_nc (Ne.symm n_X_sh) mm_n0)
  have hs2 := f29.at hs2 (mm_nc (Ne.symm n_X_s2) mm_n0)
  have hs3 := f29.at hs3 (mm_nc (Ne.symm n_X_s3) mm_n0)
  have hm0 := f29.at hm0 (mm_nc (Ne.symm n_X_mc) mm_n0)
  have hm5 := f29.at hm5 (mm_nc (Ne.symm n_X_m5) mm_n0)
  have hm6 := f29.at hm6 (mm_nc (Ne.symm n_X_m6) mm_n0)
  have hm7 := f29.at hm7 (mm_nc (Ne.symm n_X_m7) mm_n0)
  have hm8 := f29.at hm8 (mm_nc (Ne.symm n_X_m8) mm_n0)
  have hdg := f29.at hdg (mm_nc (Ne.symm n_X_dg) mm_n0)
  have hwl := f29.at hwl (mm_nc (Ne.symm n_X_wl) mm_n0)
  have hX : M28 X = some (ob 9 [.ref sh, .ref mc, .ref dg, .ref wl, .null, .null, .null, .int (nI 0), .null, .int (nI 0), .null, .int (nI 0), .int (nI 0), .int (nI 0)]) := g30
  have hF := hF.tr f29 (mm_ic 0 rfl mm_i0)
  have hal0 := hal
  have hal := hal.mv f29 (mm_oc hX mm_o0)
  refine lv_aload_n hx hb dX8_init_45 rfl (lv_at hl 0 rfl) ?_
  refine lv_iconst (v := nI 4) hx hb dX8_init_46 (by decide) ?_
  refine mm_news S hC hA hR (by decide +kernel) (n := 4) (by omega) (Nat.le_of_ble_eq_true rfl) (Nat.le_of_ble_eq_true rfl) dX8_init_47 (fun rm H M11 z11 hrm f11 hR => ?_)
  have n_X_rm : dif X rm := mm_nenew hX z11
  have n_sh_rm : dif sh rm := mm_nenew hs1 z11
  have n_s2_rm : dif s2 rm := mm_nenew hs2 z11
  have n_s3_rm : dif s3 rm := mm_nenew hs3 z11
  have n_mc_rm : dif mc rm := mm_nenew hm0 z11
  have n_m5_rm : dif m5 rm := mm_nenew hm5 z11
  have n_m6_rm : dif m6 rm := mm_nenew hm6 z11
  have n_m7_rm : dif m7 rm := mm_nenew hm7 z11
  have n_m8_rm : dif m8 rm := mm_nenew hm8 z11
  have n_dg_rm : dif dg rm := mm_nenew hdg z11
  have n_wl_rm : dif wl rm := mm_nenew hwl z11
  have nn_rm : M rm = none := hF.none z11 (mm_oc hX mm_o0)
  have hX := f11.at hX mm_n0
  have hs1 := f11.at hs1 mm_n0
  have hs2 := f11.at hs2 mm_n0
  have hs3 := f11.at hs3 mm_n0
  have hm0 := f11.at hm0 mm_n0
  have hm5 := f11.at hm5 mm_n0
  have hm6 := f11.at hm6 mm_n0
  have hm7 := f11.at hm7 mm_n0
  have hm8 := f11.at hm8 mm_n0
  have hdg := f11.at hdg mm_n0
  have hwl := f11.at hwl mm_n0
  have hrm : M11 rm = some (sa G 4 (fun _ => none)) := hrm
  have hF := hF.tr f11 mm_i0
  have hal0 := hal
  have hal := hal.mv f11 mm_o0
  have hal := hal.ins (k := 12) (by first | omega | (dsimp only; omega)) (mm_some hrm) nn_rm (hal0.ne z11)
  refine mm_putF S hC hR (C := RX8) (T := TX8) (N := 14) (ref := "ForkWatch") 4 hX inRX8 rfl tyX8_ok nmX8 (by decide) (by decide +kernel) (fun _ h9 => h9) rfl hin rfl rfl rfl (Nat.le_of_ble_eq_true rfl) dX8_init_50 (fun H locs M31 g33 f32 hR => ?_)
  have hs1 := f32.at hs1 (mm_nc (Ne.symm n_X_sh) mm_n0)
  have hs2 := f32.at hs2 (mm_nc (Ne.symm n_X_s2) mm_n0)
  have hs3 := f32.at hs3 (mm_nc (Ne.symm n_X_s3) mm_n0)
  have hm0 := f32.at hm0 (mm_nc (Ne.symm n_X_mc) mm_n0)
  have hm5 := f32.at hm5 (mm_nc (Ne.symm n_X_m5) mm_n0)
  have hm6 := f32.at hm6 (mm_nc (Ne.symm n_X_m6) mm_n0)
  have hm7 := f32.at hm7 (mm_nc (Ne.symm n_X_m7) mm_n0)
  have hm8 := f32.at hm8 (mm_nc (Ne.symm n_X_m8) mm_n0)
  have hdg := f32.at hdg (mm_nc (Ne.symm n_X_dg) mm_n0)
  have hwl := f32.at hwl (mm_nc (Ne.symm n_X_wl) mm_n0)
  have hrm := f32.at hrm (mm_nc (Ne.symm n_X_rm) mm_n0)
  have hX : M31 X = some (ob 9 [.ref sh, .ref mc, .ref dg, .ref wl, .ref rm, .null, .null, .int (nI 0), .null, .int (nI 0), .null, .int (nI 0), .int (nI 0), .int (nI 0)]) := g33
  have hF := hF.tr f32 (mm_ic 0 rfl mm_i0)
  have hal0 := hal
  have hal := hal.mv f32 (mm_oc hX mm_o0)
  refine lv_aload_n hx hb dX8_init_53 rfl (lv_at hl 0 rfl) ?_
  refine lv_iconst (v := nI 4) hx hb dX8_init_54 (by decide) ?_
  refine mm_newi S hC hA hR (by decide +kernel) (n := 4) (by omega) (Nat.le_of_ble_eq_true rfl) (Nat.le_of_ble_eq_true rfl) dX8_init_55 (fun sw H M34 z36 hsw f35 hR => ?_)
  have n_X_sw : dif X sw := mm_nenew hX z36
  have n_sh_sw : dif sh sw := mm_nenew hs1 z36
  have n_s2_sw : dif s2 sw := mm_nenew hs2 z36
  have n_s3_sw : dif s3 sw := mm_nenew hs3 z36
  have n_mc_sw : dif mc sw := mm_nenew hm0 z36
  have n_m5_sw : dif m5 sw := mm_nenew hm5 z36
  have n_m6_sw : dif m6 sw := mm_nenew hm6 z36
  have n_m7_sw : dif m7 sw := mm_nenew hm7 z36
  have n_m8_sw : dif m8 sw := mm_nenew hm8 z36
  have n_dg_sw : dif dg sw := mm_nenew hdg z36
  have n_wl_sw : dif wl sw := mm_nenew hwl z36
  have n_rm_sw : dif rm sw := mm_nenew hrm z36
  have nn_sw : M sw = none := hF.none z36 (mm_oc hX mm_o0)
  have hX := f35.at hX mm_n0
  have hs1 := f35.at hs1 mm_n0
  have hs2 := f35.at hs2 mm_n0
  have hs3 := f35.at hs3 mm_n0
  have hm0 := f35.at hm0 mm_n0
  have hm5 := f35.at hm5 mm_n0
  have hm6 := f35.at hm6 mm_n0
  have hm7 := f35.at hm7 mm_n0
  have hm8 := f35.at hm8 mm_n0
  have hdg := f35.at hdg mm_n0
  have hwl := f35.at hwl mm_n0
  have hrm := f35.at hrm mm_n0
  have hsw : M34 sw = some (ia G 4 (fun _ => 0)) := hsw
  have hF := hF.tr f35 mm_i0
  have hal0 := hal
  have hal := hal.mv f35 mm_o0
  have hal := hal.ins (k := 13) (by first | omega | (dsimp only; omega)) (mm_some hsw) nn_sw (hal0.ne z36)
  refine mm_putF S hC hR (C := RX8) (T := TX8) (N := 14) (ref := "ForkWatch") 5 hX inRX8 rfl tyX8_ok nmX8 (by decide) (by decide +kernel) (fun _ h9 => h9) rfl hin rfl rfl rfl (Nat.le_of_ble_eq_true rfl) dX8_init_57 (fun H locs M37 g39 f38 hR => ?_)
  have hs1 := f38.at hs1 (mm_nc (Ne.symm n_X_sh) mm_n0)
  have hs2 := f38.at hs2 (mm_nc (Ne.symm n_X_s2) mm_n0)
  have hs3 := f38.at hs3 (mm_nc (Ne.symm n_X_s3) mm_n0)
  have hm0 := f38.at hm0 (mm_nc (Ne.symm n_X_mc) mm_n0)
  have hm5 := f38.at hm5 (mm_nc (Ne.symm n_X_m5) mm_n0)
  have hm6 := f38.at hm6 (mm_nc (Ne.symm n_X_m6) mm_n0)
  have hm7 := f38.at hm7 (mm_nc (Ne.symm n_X_m7) mm_n0)
  have hm8 := f38.at hm8 (mm_nc (Ne.symm n_X_m8) mm_n0)
  have hdg := f38.at hdg (mm_nc (Ne.symm n_X_dg) mm_n0)
  have hwl := f38.at hwl (mm_nc (Ne.symm n_X_wl) mm_n0)
  have hrm := f38.at hrm (mm_nc (Ne.symm n_X_rm) mm_n0)
  have hsw := f38.at hsw (mm_nc (Ne.symm n_X_sw) mm_n0)
  have hX : M37 X = some (ob 9 [.ref sh, .ref mc, .ref dg, .ref wl, .ref rm, .ref sw, .null, .int (nI 0), .null, .int (nI 0), .null, .int (nI 0), .int (nI 0), .int (nI 0)]) := g39
  have hF := hF.tr f38 (mm_ic 0 rfl mm_i0)
  have hal0 := hal
  have hal := hal.mv f38 (mm_oc hX mm_o0)
  refine lv_aload_n hx hb dX8_init_60 rfl (lv_at hl 0 rfl) ?_
  refine lv_bipush (v := nI 64) hx hb dX8_init_61 (by decide) ?_
  refine mm_newi S hC hA hR (by decide +kernel) (n := 64) (by omega) (Nat.le_of_ble_eq_true rfl) (Nat.le_of_ble_eq_true rfl) dX8_init_63 (fun co H M40 z42 hco f41 hR => ?_)
  have n_X_co : dif X co := mm_nenew hX z42
  have n_sh_co : dif sh co := mm_nenew hs1 z42
  have n_s2_co : dif s2 co := mm_nenew hs2 z42
  have n_s3_co : dif s3 co := mm_nenew hs3 z42
  have n_mc_co : dif mc co := mm_nenew hm0 z42
  have n_m5_co : dif m5 co := mm_nenew hm5 z42
  have n_m6_co : dif m6 co := mm_nenew hm6 z42
  have n_m7_co : dif m7 co := mm_nenew hm7 z42
  have n_m8_co : dif m8 co := mm_nenew hm8 z42
  have n_dg_co : dif dg co := mm_nenew hdg z42
  have n_wl_co : dif wl co := mm_nenew hwl z42
  have n_rm_co : dif rm co := mm_nenew hrm z42
  have n_sw_co : dif sw co := mm_nenew hsw z42
  have nn_co : M co = none := hF.none z42 (mm_oc hX mm_o0)
  have hX := f41.at hX mm_n0
  have hs1 := f41.at hs1 mm_n0
  have hs2 := f41.at hs2 mm_n0
  have hs3 := f41.at hs3 mm_n0
  have hm0 := f41.at hm0 mm_n0
  have hm5 := f41.at hm5 mm_n0
  have hm6 := f41.at hm6 mm_n0
  have hm7 := f41.at hm7 mm_n0
  have hm8 := f41.at hm8 mm_n0
  have hdg := f41.at hdg mm_n0
  have hwl := f41.at hwl mm_n0
  have hrm := f41.at hrm mm_n0
  have hsw := f41.at hsw mm_n0
  have hco : M40 co = some (ia G 64 (fun _ => 0)) := hco
  have hF := hF.tr f41 mm_i0
  have hal0 := hal
  have hal := hal.mv f41 mm_o0
  have hal := hal.ins (k := 14) (by first | omega | (dsimp only; omega)) (mm_some hco) nn_co (hal0.ne z42)
  refine mm_putF S hC hR (C := RX8) (T := TX8) (N := 14) (ref := "ForkWatch") 6 hX inRX8 rfl tyX8_ok nmX8 (by decide) (by decide +kernel) (fun _ h9 => h9) rfl hin rfl rfl rfl (Nat.le_of_ble_eq_true rfl) dX8_init_65 (fun H locs M43 g45 f44 hR => ?_)
  have hs1 := f44.at hs1 (mm_nc (Ne.symm n_X_sh) mm_n0)
  have hs2 := f44.at hs2 (mm_nc (Ne.symm n_X_s2) mm_n0)
  have hs3 := f44.at hs3 (mm_nc (Ne.symm n_X_s3) mm_n0)
  have hm0 := f44.at hm0 (mm_nc (Ne.symm n_X_mc) mm_n0)
  have hm5 := f44.at hm5 (mm_nc (Ne.symm n_X_m5) mm_n0)
  have hm6 := f44.at hm6 (mm_nc (Ne.symm n_X_m6) mm_n0)
  have hm7 := f44.at hm7 (mm_nc (Ne.symm n_X_m7) mm_n0)
  have hm8 := f44.at hm8 (mm_nc (Ne.symm n_X_m8) mm_n0)
  have hdg := f44.at hdg (mm_nc (Ne.symm n_X_dg) mm_n0)
  have hwl := f44.at hwl (mm_nc (Ne.symm n_X_wl) mm_n0)
  have hrm := f44.at hrm (mm_nc (Ne.symm n_X_rm) mm_n0)
  have hsw := f44.at hsw (mm_nc (Ne.symm n_X_sw) mm_n0)
  have hco := f44.at hco (mm_nc (Ne.symm n_X_co) mm_n0)
  have hX : M43 X = some (ob 9 [.ref sh, .ref mc, .ref dg, .ref wl, .ref rm, .ref sw, .ref co, .int (nI 0), .null, .int (nI 0), .null, .int (nI 0), .int (nI 0), .int (nI 0)]) := g45
  have hF := hF.tr f44 (mm_ic 0 rfl mm_i0)
  have hal0 := hal
  have hal := hal.mv f44 (mm_oc hX mm_o0)
  refine lv_aload_n hx hb dX8_init_68 rfl (lv_at hl 0 rfl) ?_
  refine lv_iconst (v := nI 0) hx hb dX8_init_69 (by decide) ?_
  refine mm_put S hC hR (C := RX8) (T := TX8) (N := 14) (ref := "ForkWatch") 7 hX inRX8 rfl tyX8_ok nmX8 (by decide) (by decide +kernel) (fun _ h9 => h9) rfl rfl rfl (Nat.le_of_ble_eq_true rfl) dX8_init_70 (fun H locs M46 g48 f47 hR => ?_)
  have hs1 := f47.at hs1 (mm_nc (Ne.symm n_X_sh) mm_n0)
  have hs2 := f47.at hs2 (mm_nc (Ne.symm n_X_s2) mm_n0)
  have hs3 := f47.at hs3 (mm_nc (Ne.symm n_X_s3) mm_n0)
  have hm0 := f47.at hm0 (mm_nc (Ne.symm n_X_mc) mm_n0)
  have hm5 := f47.at hm5 (mm_nc (Ne.symm n_X_m5) mm_n0)
  have hm6 := f47.at hm6 (mm_nc (Ne.symm n_X_m6) mm_n0)
  have hm7 := f47.at hm7 (mm_nc (Ne.symm n_X_m7) mm_n0)
  have hm8 := f47.at hm8 (mm_nc (Ne.symm n_X_m8) mm_n0)
  have hdg := f47.at hdg (mm_nc (Ne.symm n_X_dg) mm_n0)
  have hwl := f47.at hwl (mm_nc (Ne.symm n_X_wl) mm_n0)
  have hrm := f47.at hrm (mm_nc (Ne.symm n_X_rm) mm_n0)
  have hsw := f47.at hsw (mm_nc (Ne.symm n_X_sw) mm_n0)
  have hco := f47.at hco (mm_nc (Ne.symm n_X_co) mm_n0)
  have hX : M46 X = some (ob 9 [.ref sh, .ref mc, .ref dg, .ref wl, .ref rm, .ref sw, .ref co, .int (nI 0), .null, .int (nI 0), .null, .int (nI 0), .int (nI 0), .int (nI 0)]) := g48
  have hF := hF.tr f47 (mm_ic 0 rfl mm_i0)
  have hal0 := hal
  have hal := hal.mv f47 (mm_oc hX mm_o0)
  refine lv_aload_n hx hb dX8_init_73 rfl (lv_at hl 0 rfl) ?_
  refine lv_bipush (v := nI 12) hx hb dX8_init_74 (by decide) ?_
  refine mm_newi S hC hA hR (by decide +kernel) (n := 12) (by omega) (Nat.le_of_ble_eq_true rfl) (Nat.le_of_ble_eq_true rfl) dX8_init_76 (fun lr H M49 z51 hlr f50 hR => ?_)
  have n_X_lr : dif X lr := mm_nenew hX z51
  have n_sh_lr : dif sh lr := mm_nenew hs1 z51
  have n_s2_lr : dif s2 lr := mm_nenew hs2 z51
  have n_s3_lr : dif s3 lr := mm_nenew hs3 z51
  have n_mc_lr : dif mc lr := mm_nenew hm0 z51
  have n_m5_lr : dif m5 lr := mm_nenew hm5 z51
  have n_m6_lr : dif m6 lr := mm_nenew hm6 z51
  have n_m7_lr : dif m7 lr := mm_nenew hm7 z51
  have n_m8_lr : dif m8 lr := mm_nenew hm8 z51
  have n_dg_lr : dif dg lr := mm_nenew hdg z51
  have n_wl_lr : dif wl lr := mm_nenew hwl z51
  have n_rm_lr : dif rm lr := mm_nenew hrm z51
  have n_sw_lr : dif sw lr := mm_nenew hsw z51
  have n_co_lr : dif co lr := mm_nenew hco z51
  have nn_lr : M lr = none := hF.none z51 (mm_oc hX mm_o0)
  have hX := f50.at hX mm_n0
  have hs1 := f50.at hs1 mm_n0
  have hs2 := f50.at hs2 mm_n0
  have hs3 := f50.at hs3 mm_n0
  have hm0 := f50.at hm0 mm_n0
  have hm5 := f50.at hm5 mm_n0
  have hm6 := f50.at hm6 mm_n0
  have hm7 := f50.at hm7 mm_n0
  have hm8 := f50.at hm8 mm_n0
  have hdg := f50.at hdg mm_n0
  have hwl := f50.at hwl mm_n0
  have hrm := f50.at hrm mm_n0
  have hsw := f50.at hsw mm_n0
  have hco := f50.at hco mm_n0
  have hlr : M49 lr = some (ia G 12 (fun _ => 0)) := hlr
  have hF := hF.tr f50 mm_i0
  have hal0 := hal
  have hal := hal.mv f50 mm_o0
  have hal := hal.ins (k := 15) (by first | omega | (dsimp only; omega)) (mm_some hlr) nn_lr (hal0.ne z51)
  refine mm_putF S hC hR (C := RX8) (T := TX8) (N := 14) (ref := "ForkWatch") 8 hX inRX8 rfl tyX8_ok nmX8 (by decide) (by decide +kernel) (fun _ h9 => h9) rfl hin rfl rfl rfl (Nat.le_of_ble_eq_true rfl) dX8_init_78 (fun H locs M52 g54 f53 hR => ?_)
  have hs1 := f53.at hs1 (mm_nc (Ne.symm n_X_sh) mm_n0)
  have hs2 := f53.at hs2 (mm_nc (Ne.symm n_X_s2) mm_n0)
  have hs3 := f53.at hs3 (mm_nc (Ne.symm n_X_s3) mm_n0)
  have hm0 := f53.at hm0 (mm_nc (Ne.symm n_X_mc) mm_n0)
  have hm5 := f53.at hm5 (mm_nc (Ne.symm n_X_m5) mm_n0)
  have hm6 := f53.at hm6 (mm_nc (Ne.symm n_X_m6) mm_n0)
  have hm7 := f53.at hm7 (mm_nc (Ne.symm n_X_m7) mm_n0)
  have hm8 := f53.at hm8 (mm_nc (Ne.symm n_X_m8) mm_n0)
  have hdg := f53.at hdg (mm_nc (Ne.symm n_X_dg) mm_n0)
  have hwl := f53.at hwl (mm_nc (Ne.symm n_X_wl) mm_n0)
  have hrm := f53.at hrm (mm_nc (Ne.symm n_X_rm) mm_n0)
  have hsw := f53.at hsw (mm_nc (Ne.symm n_X_sw) mm_n0)
  have hco := f53.at hco (mm_nc (Ne.symm n_X_co) mm_n0)
  have hlr := f53.at hlr (mm_nc (Ne.symm n_X_lr) mm_n0)
  have hX : M52 X = some (ob 9 [.ref sh, .ref mc, .ref dg, .ref wl, .ref rm, .ref sw, .ref co, .int (nI 0), .ref lr, .int (nI 0), .null, .int (nI 0), .int (nI 0), .int (nI 0)]) := g54
  have hF := hF.tr f53 (mm_ic 0 rfl mm_i0)
  have hal0 := hal
  have hal := hal.mv f53 (mm_oc hX mm_o0)
  refine lv_aload_n hx hb dX8_init_81 rfl (lv_at hl 0 rfl) ?_
  refine lv_iconst (v := nI 0) hx hb dX8_init_82 (by decide) ?_
  refine mm_put S hC hR (C := RX8) (T := TX8) (N := 14) (ref := "ForkWatch") 9 hX inRX8 rfl tyX8_ok nmX8 (by decide) (by decide +kernel) (fun _ h9 => h9) rfl rfl rfl (Nat.le_of_ble_eq_true rfl) dX8_init_83 (fun H locs M55 g57 f56 hR => ?_)
  have hs1 := f56.at hs1 (mm_nc (Ne.symm n_X_sh) mm_n0)
  have hs2 := f56.at hs2 (mm_nc (Ne.symm n_X_s2) mm_n0)
  have hs3 := f56.at hs3 (mm_nc (Ne.symm n_X_s3) mm_n0)
  have hm0 := f56.at hm0 (mm_nc (Ne.symm n_X_mc) mm_n0)
  have hm5 := f56.at hm5 (mm_nc (Ne.symm n_X_m5) mm_n0)
  have hm6 := f56.at hm6 (mm_nc (Ne.symm n_X_m6) mm_n0)
  have hm7 := f56.at hm7 (mm_nc (Ne.symm n_X_m7) mm_n0)
  have hm8 := f56.at hm8 (mm_nc (Ne.symm n_X_m8) mm_n0)
  have hdg := f56.at hdg (mm_nc (Ne.symm n_X_dg) mm_n0)
  have hwl := f56.at hwl (mm_nc (Ne.symm n_X_wl) mm_n0)
  have hrm := f56.at hrm (mm_nc (Ne.symm n_X_rm) mm_n0)
  have hsw := f56.at hsw (mm_nc (Ne.symm n_X_sw) mm_n0)
  have hco := f56.at hco (mm_nc (Ne.symm n_X_co) mm_n0)
  have hlr := f56.at hlr (mm_nc (Ne.symm n_X_lr) mm_n0)
  have hX : M55 X = some (ob 9 [.ref sh, .ref mc, .ref dg, .ref wl, .ref rm, .ref sw, .ref co, .int (nI 0), .ref lr, .int (nI 0), .null, .int (nI 0), .int (nI 0), .int (nI 0)]) := g57
  have hF := hF.tr f56 (mm_ic 0 rfl mm_i0)
  have hal0 := hal
  have hal := hal.mv f56 (mm_oc hX mm_o0)
  refine lv_aload_n hx hb dX8_init_86 rfl (lv_at hl 0 rfl) ?_
  refine mm_new (fs := [.null, .null, .null]) S hC hA hR (C := RX1) (T := TX1) (N := 3) (ci := 2) inRX1 rfl tyX1_ok (by decide +kernel) (by decide +kernel) (by decide +kernel) (fun j hj => by rcases (show j = 0 ∨ j = 1 ∨ j = 2 by omega) with rfl | rfl | rfl <;> rfl) (Nat.le_of_ble_eq_true rfl) (Nat.le_of_ble_eq_true rfl) dX8_init_87 (fun hi H M58 z60 hhi f59 hR => ?_)
  have n_X_hi : dif X hi := mm_nenew hX z60
  have n_sh_hi : dif sh hi := mm_nenew hs1 z60
  have n_s2_hi : dif s2 hi := mm_nenew hs2 z60
  have n_s3_hi : dif s3 hi := mm_nenew hs3 z60
  have n_mc_hi : dif mc hi := mm_nenew hm0 z60
  have n_m5_hi : dif m5 hi := mm_nenew hm5 z60
  have n_m6_hi : dif m6 hi := mm_nenew hm6 z60
  have n_m7_hi : dif m7 hi := mm_nenew hm7 z60
  have n_m8_hi : dif m8 hi := mm_nenew hm8 z60
  have n_dg_hi : dif dg hi := mm_nenew hdg z60
  have n_wl_hi : dif wl hi := mm_nenew hwl z60
  have n_rm_hi : dif rm hi := mm_nenew hrm z60
  have n_sw_hi : dif sw hi := mm_nenew hsw z60
  have n_co_hi : dif co hi := mm_nenew hco z60
  have n_lr_hi : dif lr hi := mm_nenew hlr z60
  have nn_hi : M hi = none := hF.none z60 (mm_oc hX mm_o0)
  have hX := f59.at hX mm_n0
  have hs1 := f59.at hs1 mm_n0
  have hs2 := f59.at hs2 mm_n0
  have hs3 := f59.at hs3 mm_n0
  have hm0 := f59.at hm0 mm_n0
  have hm5 := f59.at hm5 mm_n0
  have hm6 := f59.at hm6 mm_n0
  have hm7 := f59.at hm7 mm_n0
  have hm8 := f59.at hm8 mm_n0
  have hdg := f59.at hdg mm_n0
  have hwl := f59.at hwl mm_n0
  have hrm := f59.at hrm mm_n0
  have hsw := f59.at hsw mm_n0
  have hco := f59.at hco mm_n0
  have hlr := f59.at hlr mm_n0
  have hhi : M58 hi = some (ob 2 [.null, .null, .null]) := hhi
  have hF := hF.tr f59 mm_i0
  have hal0 := hal
  have hal := hal.mv f59 mm_o0
  have hal := hal.ins (k := 16) (by first | omega | (dsimp only; omega)) (mm_some hhi) nn_hi (hal0.ne z60)
  refine lv_dup hx hb dX8_init_90 rfl ?_
  refine mm_callv hA hR (va_runIN (As := []) (rest := [.ref hi, .ref X]) S (c_X1_init l G M58 _ hi hhi) ⟨va_cnB 0 S.2.2.2.2 gX8_init_X1_init_n58 rfl rfl rfl (hC.2.2.2.2.2 (.methodLinkNest RX8 58 yX1_init "ForkWatch") (by decide +kernel)) (S.2.2.2.2 (.initialized RX1) (by decide +kernel)) (by decide +kernel) ⟨Nat.le_of_ble_eq_true rfl, Nat.le_of_ble_eq_true rfl⟩, rfl, S.2.2.2.2 (.instanceMethod yX1_init) (by decide +kernel)⟩ (mm_preS hC hA hR _) rfl rfl hl.1 rfl (lv_room (Nat.le_of_ble_eq_true rfl)) dX8_init_91 ⟨Nat.le_of_ble_eq_true rfl, Nat.le_of_ble_eq_true rfl⟩) (fun M62 H locs hp hR => ?_)
  obtain ⟨Ls, dn, F, ca, la, z1, z2, z3, z4, z5, e1, e2, e3, ⟨e4, e5, e6⟩, ff⟩ := hp
  have n_X_Ls : dif X Ls := mm_nenew hX z1
  have n_sh_Ls : dif sh Ls := mm_nenew hs1 z1
  have n_s2_Ls : dif s2 Ls := mm_nenew hs2 z1
  have n_s3_Ls : dif s3 Ls := mm_nenew hs3 z1
  have n_mc_Ls : dif mc Ls := mm_nenew hm0 z1
  have n_m5_Ls : dif m5 Ls := mm_nenew hm5 z1
  have n_m6_Ls : dif m6 Ls := mm_nenew hm6 z1
  have n_m7_Ls : dif m7 Ls := mm_nenew hm7 z1
  have n_m8_Ls : dif m8 Ls := mm_nenew hm8 z1
  have n_dg_Ls : dif dg Ls := mm_nenew hdg z1
  have n_wl_Ls : dif wl Ls := mm_nenew hwl z1
  have n_rm_Ls : dif rm Ls := mm_nenew hrm z1
  have n_sw_Ls : dif sw Ls := mm_nenew hsw z1
  have n_co_Ls : dif co Ls := mm_nenew hco z1
  have n_lr_Ls : dif lr Ls := mm_nenew hlr z1
  have n_hi_Ls : dif hi Ls := mm_nenew hhi z1
  have nn_Ls : M Ls = none := hF.none z1 (mm_oc hX mm_o0)
  have n_X_dn : dif X dn := mm_nenew hX z2
  have n_sh_dn : dif sh dn := mm_nenew hs1 z2
  have n_s2_dn : dif s2 dn := mm_nenew hs2 z2
  have n_s3_dn : dif s3 dn := mm_nenew hs3 z2
  have n_mc_dn : dif mc dn := mm_nenew hm0 z2
  have n_m5_dn : dif m5 dn := mm_nenew hm5 z2
  have n_m6_dn : dif m6 dn := mm_nenew hm6 z2
  have n_m7_dn : dif m7 dn := mm_nenew hm7 z2
  have n_m8_dn : dif m8 dn := mm_nenew hm8 z2
  have n_dg_dn : dif dg dn := mm_nenew hdg z2
  have n_wl_dn : dif wl dn := mm_nenew hwl z2
  have n_rm_dn : dif rm dn := mm_nenew hrm z2
  have n_sw_dn : dif sw dn := mm_nenew hsw z2
  have n_co_dn : dif co dn := mm_nenew hco z2
  have n_lr_dn : dif lr dn := mm_nenew hlr z2
  have n_hi_dn : dif hi dn := mm_nenew hhi z2
  have nn_dn : M dn = none := hF.none z2 (mm_oc hX mm_o0)
  have n_X_F : dif X F := mm_nenew hX z3
  have n_sh_F : dif sh F := mm_nenew hs1 z3
  have n_s2_F : dif s2 F := mm_nenew hs2 z3
  have n_s3_F : dif s3 F := mm_nenew hs3 z3
  have n_mc_F : dif mc F := mm_nenew hm0 z3
  have n_m5_F : dif m5 F := mm_nenew hm5 z3
  have n_m6_F : dif m6 F := mm_nenew hm6 z3
  have n_m7_F : dif m7 F := mm_nenew hm7 z3
  have n_m8_F : dif m8 F := mm_nenew hm8 z3
  have n_dg_F : dif dg F := mm_nenew hdg z3
  have n_wl_F : dif wl F := mm_nenew hwl z3
  have n_rm_F : dif rm F := mm_nenew hrm z3
  have n_sw_F : dif sw F := mm_nenew hsw z3
  have n_co_F : dif co F := mm_nenew hco z3
  have n_lr_F : dif lr F := mm_nenew hlr z3
  have n_hi_F : dif hi F := mm_nenew hhi z3
  have nn_F : M F = none := hF.none z3 (mm_oc hX mm_o0)
  have n_X_ca : dif X ca := mm_nenew hX z4
  have n_sh_ca : dif sh ca := mm_nenew hs1 z4
  have n_s2_ca : dif s2 ca := mm_nenew hs2 z4
  have n_s3_ca : dif s3 ca := mm_nenew hs3 z4
  have n_mc_ca : dif mc ca := mm_nenew hm0 z4
  have n_m5_ca : dif m5 ca := mm_nenew hm5 z4
  have n_m6_ca : dif m6 ca := mm_nenew hm6 z4
  have n_m7_ca : dif m7 ca := mm_nenew hm7 z4
  have n_m8_ca : dif m8 ca := mm_nenew hm8 z4
  have n_dg_ca : dif dg ca := mm_nenew hdg z4
  have n_wl_ca : dif wl ca := mm_nenew hwl z4
  have n_rm_ca : dif rm ca := mm_nenew hrm z4
  have n_sw_ca : dif sw ca := mm_nenew hsw z4
  have n_co_ca : dif co ca := mm_nenew hco z4
  have n_lr_ca : dif lr ca := mm_nenew hlr z4
  have n_hi_ca : dif hi ca := mm_nenew hhi z4
  have nn_ca : M ca = none := hF.none z4 (mm_oc hX mm_o0)
  have n_X_la : dif X la := mm_nenew hX z5
  have n_sh_la : dif sh la := mm_nenew hs1 z5
  have n_s2_la : dif s2 la := mm_nenew hs2 z5
  have n_s3_la : dif s3 la := mm_nenew hs3 z5
  have n_mc_la : dif mc la := mm_nenew hm0 z5
  have n_m5_la : dif m5 la := mm_nenew hm5 z5
  have n_m6_la : dif m6 la := mm_nenew hm6 z5
  have n_m7_la : dif m7 la := mm_nenew hm7 z5
  have n_m8_la : dif m8 la := mm_nenew hm8 z5
  have n_dg_la : dif dg la := mm_nenew hdg z5
  have n_wl_la : dif wl la := mm_nenew hwl z5
  have n_rm_la : dif rm la := mm_nenew hrm z5
  have n_sw_la : dif sw la := mm_nenew hsw z5
  have n_co_la : dif co la := mm_nenew hco z5
  have n_lr_la : dif lr la := mm_nenew hlr z5
  have n_hi_la : dif hi la := mm_nenew hhi z5
  have nn_la : M la = none := hF.none z5 (mm_oc hX mm_o0)
  have hX := ff.at hX (mm_nc n_X_hi mm_n0)
  have hs1 := ff.at hs1 (mm_nc n_sh_hi mm_n0)
  have hs2 := ff.at hs2 (mm_nc n_s2_hi mm_n0)
  have hs3 := ff.at hs3 (mm_nc n_s3_hi mm_n0)
  have hm0 := ff.at hm0 (mm_nc n_mc_hi mm_n0)
  have hm5 := ff.at hm5 (mm_nc n_m5_hi mm_n0)
  have hm6 := ff.at hm6 (mm_nc n_m6_hi mm_n0)
  have hm7 := ff.at hm7 (mm_nc n_m7_hi mm_n0)
  have hm8 := ff.at hm8 (mm_nc n_m8_hi mm_n0)
  have hdg := ff.at hdg (mm_nc n_dg_hi mm_n0)
  have hwl := ff.at hwl (mm_nc n_wl_hi mm_n0)
  have hrm := ff.at hrm (mm_nc n_rm_hi mm_n0)
  have hsw := ff.at hsw (mm_nc n_sw_hi mm_n0)
  have hco := ff.at hco (mm_nc n_co_hi mm_n0)
  have hlr := ff.at hlr (mm_nc n_lr_hi mm_n0)
  have hhi : M62 hi = some (ob 2 [.ref Ls, .ref dn, .ref F]) := e1
  have hLs : M62 Ls = some (ob 0 [.int (nI 0), .ref G.2.2.2.2.1, .int (nI 0)]) := e2
  have hdn : M62 dn = some (ia G 4 (fun _ => 0)) := e3
  have hF0 : M62 F = some (ob 1 [.ref ca, .ref la]) := e4
  have hca : M62 ca = some (ia G 192 (fun _ => 0)) := e5
  have hla : M62 la = some (ia G 16 (fun _ => 0)) := e6
  have hF := hF.tr ff (mm_in nn_hi mm_i0)
  have hal0 := hal
  have hal := hal.mv ff (mm_oc hhi mm_o0)
  have hal := hal.ins (k := 17) (by first | omega | (dsimp only; omega)) (mm_some hLs) nn_Ls (hal0.ne z1)
  have hal := hal.ins (k := 19) (by first | omega | (dsimp only; omega)) (mm_some hdn) nn_dn (al_ne2 (hal0.ne z2) (mm_neoi hLs hdn))
  have hal := hal.ins (k := 20) (by first | omega | (dsimp only; omega)) (mm_some hF0) nn_F (al_ne2 (al_ne2 (hal0.ne z3) (mm_neoo hLs hF0 (by decide))) (Ne.symm (mm_neoi hF0 hdn)))
  have hal := hal.ins (k := 21) (by first | omega | (dsimp only; omega)) (mm_some hca) nn_ca (al_ne2 (al_ne2 (al_ne2 (hal0.ne z4) (mm_neoi hLs hca)) (mm_nelen hdn hca (by decide))) (mm_neoi hF0 hca))
  have hal := hal.ins (k := 22) (by first | omega | (dsimp only; omega)) (mm_some hla) nn_la (al_ne2 (al_ne2 (al_ne2 (al_ne2 (hal0.ne z5) (mm_neoi hLs hla)) (mm_nelen hdn hla (by decide))) (mm_neoi hF0 hla)) (mm_nelen hca hla (by decide)))
  refine mm_putF S hC hR (C := RX8) (T := TX8) (N := 14) (ref := "ForkWatch") 10 hX inRX8 rfl tyX8_ok nmX8 (by decide) (by decide +kernel) (fun _ h9 => h9) rfl hin rfl rfl rfl (Nat.le_of_ble_eq_true rfl) dX8_init_94 (fun H locs M63 g65 f64 hR => ?_)
  have hs1 := f64.at hs1 (mm_nc (Ne.symm n_X_sh) mm_n0)
  have hs2 := f64.at hs2 (mm_nc (Ne.symm n_X_s2) mm_n0)
  have hs3 := f64.at hs3 (mm_nc (Ne.symm n_X_s3) mm_n0)
  have hm0 := f64.at hm0 (mm_nc (Ne.symm n_X_mc) mm_n0)
  have hm5 := f64.at hm5 (mm_nc (Ne.symm n_X_m5) mm_n0)
  have hm6 := f64.at hm6 (mm_nc (Ne.symm n_X_m6) mm_n0)
  have hm7 := f64.at hm7 (mm_nc (Ne.symm n_X_m7) mm_n0)
  have hm8 := f64.at hm8 (mm_nc (Ne.symm n_X_m8) mm_n0)
  have hdg := f64.at hdg (mm_nc (Ne.symm n_X_dg) mm_n0)
  have hwl := f64.at hwl (mm_nc (Ne.symm n_X_wl) mm_n0)
  have hrm := f64.at hrm (mm_nc (Ne.symm n_X_rm) mm_n0)
  have hsw := f64.at hsw (mm_nc (Ne.symm n_X_sw) mm_n0)
  have hco := f64.at hco (mm_nc (Ne.symm n_X_co) mm_n0)
  have hlr := f64.at hlr (mm_nc (Ne.symm n_X_lr) mm_n0)
  have hhi := f64.at hhi (mm_nc (Ne.symm n_X_hi) mm_n0)
  have hLs := f64.at hLs (mm_nc (Ne.symm n_X_Ls) mm_n0)
  have hdn := f64.at hdn (mm_nc (Ne.symm n_X_dn) mm_n0)
  have hF0 := f64.at hF0 (mm_nc (Ne.symm n_X_F) mm_n0)
  have hca := f64.at hca (mm_nc (Ne.symm n_X_ca) mm_n0)
  have hla := f64.at hla (mm_nc (Ne.symm n_X_la) mm_n0)
  have hX : M63 X = some (ob 9 [.ref sh, .ref mc, .ref dg, .ref wl, .ref rm, .ref sw, .ref co, .int (nI 0), .ref lr, .int (nI 0), .ref hi, .int (nI 0), .int (nI 0), .int (nI 0)]) := g65
  have hF := hF.tr f64 (mm_ic 0 rfl mm_i0)
  have hal0 := hal
  have hal := hal.mv f64 (mm_oc hX mm_o0)
  refine lv_aload_n hx hb dX8_init_97 rfl (lv_at hl 0 rfl) ?_
  refine lv_iconst (v := nI 0) hx hb dX8_init_98 (by decide) ?_
  refine mm_put S hC hR (C := RX8) (T := TX8) (N := 14) (ref := "ForkWatch") 11 hX inRX8 rfl tyX8_ok nmX8 (by decide) (by decide +kernel) (fun _ h9 => h9) rfl rfl rfl (Nat.le_of_ble_eq_true rfl) dX8_init_99 (fun H locs M66 g68 f67 hR => ?_)
  have hs1 := f67.at hs1 (mm_nc (Ne.symm n_X_sh) mm_n0)
  have hs2 := f67.at hs2 (mm_nc (Ne.symm n_X_s2) mm_n0)
  have hs3 := f67.at hs3 (mm_nc (Ne.symm n_X_s3) mm_n0)
  have hm0 := f67.at hm0 (mm_nc (Ne.symm n_X_mc) mm_n0)
  have hm5 := f67.at hm5 (mm_nc (Ne.symm n_X_m5) mm_n0)
  have hm6 := f67.at hm6 (mm_nc (Ne.symm n_X_m6) mm_n0)
  have hm7 := f67.at hm7 (mm_nc (Ne.symm n_X_m7) mm_n0)
  have hm8 := f67.at hm8 (mm_nc (Ne.symm n_X_m8) mm_n0)
  have hdg := f67.at hdg (mm_nc (Ne.symm n_X_dg) mm_n0)
  have hwl := f67.at hwl (mm_nc (Ne.symm n_X_wl) mm_n0)
  have hrm := f67.at hrm (mm_nc (Ne.symm n_X_rm) mm_n0)
  have hsw := f67.at hsw (mm_nc (Ne.symm n_X_sw) mm_n0)
  have hco := f67.at hco (mm_nc (Ne.symm n_X_co) mm_n0)
  have hlr := f67.at hlr (mm_nc (Ne.symm n_X_lr) mm_n0)
  have hhi := f67.at hhi (mm_nc (Ne.symm n_X_hi) mm_n0)
  have hLs := f67.at hLs (mm_nc (Ne.symm n_X_Ls) mm_n0)
  have hdn := f67.at hdn (mm_nc (Ne.symm n_X_dn) mm_n0)
  have hF0 := f67.at hF0 (mm_nc (Ne.symm n_X_F) mm_n0)
  have hca := f67.at hca (mm_nc (Ne.symm n_X_ca) mm_n0)
  have hla := f67.at hla (mm_nc (Ne.symm n_X_la) mm_n0)
  have hX : M66 X = some (ob 9 [.ref sh, .ref mc, .ref dg, .ref wl, .ref rm, .ref sw, .ref co, .int (nI 0), .ref lr, .int (nI 0), .ref hi, .int (nI 0), .int (nI 0), .int (nI 0)]) := g68
  have hF := hF.tr f67 (mm_ic 0 rfl mm_i0)
  have hal0 := hal
  have hal := hal.mv f67 (mm_oc hX mm_o0)
  refine lv_aload_n hx hb dX8_init_102 rfl (lv_at hl 0 rfl) ?_
  refine lv_iconst (v := nI 0) hx hb dX8_init_103 (by decide) ?_
  refine mm_put S hC hR (C := RX8) (T := TX8) (N := 14) (ref := "ForkWatch") 12 hX inRX8 rfl tyX8_ok nmX8 (by decide) (by decide +kernel) (fun _ h9 => h9) rfl rfl rfl (Nat.le_of_ble_eq_true rfl) dX8_init_104 (fun H locs M69 g71 f70 hR => ?_)
  have hs1 := f70.at hs1 (mm_nc (Ne.symm n_X_sh) mm_n0)
  have hs2 := f70.at hs2 (mm_nc (Ne.symm n_X_s2) mm_n0)
  have hs3 := f70.at hs3 (mm_nc (Ne.symm n_X_s3) mm_n0)
  have hm0 := f70.at hm0 (mm_nc (Ne.symm n_X_mc) mm_n0)
  have hm5 := f70.at hm5 (mm_nc (Ne.symm n_X_m5) mm_n0)
  have hm6 := f70.at hm6 (mm_nc (Ne.symm n_X_m6) mm_n0)
  have hm7 := f70.at hm7 (mm_nc (Ne.symm n_X_m7) mm_n0)
  have hm8 := f70.at hm8 (mm_nc (Ne.symm n_X_m8) mm_n0)
  have hdg := f70.at hdg (mm_nc (Ne.symm n_X_dg) mm_n0)
  have hwl := f70.at hwl (mm_nc (Ne.symm n_X_wl) mm_n0)
  have hrm := f70.at hrm (mm_nc (Ne.symm n_X_rm) mm_n0)
  have hsw := f70.at hsw (mm_nc (Ne.symm n_X_sw) mm_n0)
  have hco := f70.at hco (mm_nc (Ne.symm n_X_co) mm_n0)
  have hlr := f70.at hlr (mm_nc (Ne.symm n_X_lr) mm_n0)
  have hhi := f70.at hhi (mm_nc (Ne.symm n_X_hi) mm_n0)
  have hLs := f70.at hLs (mm_nc (Ne.symm n_X_Ls) mm_n0)
  have hdn := f70.at hdn (mm_nc (Ne.symm n_X_dn) mm_n0)
  have hF0 := f70.at hF0 (mm_nc (Ne.symm n_X_F) mm_n0)
  have hca := f70.at hca (mm_nc (Ne.symm n_X_ca) mm_n0)
  have hla := f70.at hla (mm_nc (Ne.symm n_X_la) mm_n0)
  have hX : M69 X = some (ob 9 [.ref sh, .ref mc, .ref dg, .ref wl, .ref rm, .ref sw, .ref co, .int (nI 0), .ref lr, .int (nI 0), .ref hi, .int (nI 0), .int (nI 0), .int (nI 0)]) := g71
  have hF := hF.tr f70 (mm_ic 0 rfl mm_i0)
  have hal0 := hal
  have hal := hal.mv f70 (mm_oc hX mm_o0)
  refine lv_aload_n hx hb dX8_init_107 rfl (lv_at hl 0 rfl) ?_
  refine lv_iconst (v := nI 0) hx hb dX8_init_108 (by decide) ?_
  refine mm_put S hC hR (C := RX8) (T := TX8) (N := 14) (ref := "ForkWatch") 13 hX inRX8 rfl tyX8_ok nmX8 (by decide) (by decide +kernel) (fun _ h9 => h9) rfl rfl rfl (Nat.le_of_ble_eq_true rfl) dX8_init_109 (fun H locs M72 g74 f73 hR => ?_)
  have hs1 := f73.at hs1 (mm_nc (Ne.symm n_X_sh) mm_n0)
  have hs2 := f73.at hs2 (mm_nc (Ne.symm n_X_s2) mm_n0)
  have hs3 := f73.at hs3 (mm_nc (Ne.symm n_X_s3) mm_n0)
  have hm0 := f73.at hm0 (mm_nc (Ne.symm n_X_mc) mm_n0)
  have hm5 := f73.at hm5 (mm_nc (Ne.symm n_X_m5) mm_n0)
  have hm6 := f73.at hm6 (mm_nc (Ne.symm n_X_m6) mm_n0)
  have hm7 := f73.at hm7 (mm_nc (Ne.symm n_X_m7) mm_n0)
  have hm8 := f73.at hm8 (mm_nc (Ne.symm n_X_m8) mm_n0)
  have hdg := f73.at hdg (mm_nc (Ne.symm n_X_dg) mm_n0)
  have hwl := f73.at hwl (mm_nc (Ne.symm n_X_wl) mm_n0)
  have hrm := f73.at hrm (mm_nc (Ne.symm n_X_rm) mm_n0)
  have hsw := f73.at hsw (mm_nc (Ne.symm n_X_sw) mm_n0)
  have hco := f73.at hco (mm_nc (Ne.symm n_X_co) mm_n0)
  have hlr := f73.at hlr (mm_nc (Ne.symm n_X_lr) mm_n0)
  have hhi := f73.at hhi (mm_nc (Ne.symm n_X_hi) mm_n0)
  have hLs := f73.at hLs (mm_nc (Ne.symm n_X_Ls) mm_n0)
  have hdn := f73.at hdn (mm_nc (Ne.symm n_X_dn) mm_n0)
  have hF0 := f73.at hF0 (mm_nc (Ne.symm n_X_F) mm_n0)
  have hca := f73.at hca (mm_nc (Ne.symm n_X_ca) mm_n0)
  have hla := f73.at hla (mm_nc (Ne.symm n_X_la) mm_n0)
  have hX : M72 X = some (ob 9 [.ref sh, .ref mc, .ref dg, .ref wl, .ref rm, .ref sw, .ref co, .int (nI 0), .ref lr, .int (nI 0), .ref hi, .int (nI 0), .int (nI 0), .int (nI 0)]) := g74
  have hF := hF.tr f73 (mm_ic 0 rfl mm_i0)
  have hal0 := hal
  have hal := hal.mv f73 (mm_oc hX mm_o0)
  have halB := hal
  refine mm_new (fs := [.null, .null, .null]) S hC hA hR (C := RX7) (T := TX7) (N := 3) (ci := 8) inRX7 rfl tyX7_ok (by decide +kernel) (by decide +kernel) (by decide +kernel) (fun j hj => by rcases (show j = 0 ∨ j = 1 ∨ j = 2 by omega) with rfl | rfl | rfl <;> rfl) (Nat.le_of_ble_eq_true rfl) (Nat.le_of_ble_eq_true rfl) dX8_init_112 (fun W9 H M75 z77 hW9 f76 hR => ?_)
  have n_X_W9 : dif X W9 := mm_nenew hX z77
  have n_sh_W9 : dif sh W9 := mm_nenew hs1 z77
  have n_s2_W9 : dif s2 W9 := mm_nenew hs2 z77
  have n_s3_W9 : dif s3 W9 := mm_nenew hs3 z77
  have n_mc_W9 : dif mc W9 := mm_nenew hm0 z77
  have n_m5_W9 : dif m5 W9 := mm_nenew hm5 z77
  have n_m6_W9 : dif m6 W9 := mm_nenew hm6 z77
  have n_m7_W9 : dif m7 W9 := mm_nenew hm7 z77
  have n_m8_W9 : dif m8 W9 := mm_nenew hm8 z77
  have n_dg_W9 : dif dg W9 := mm_nenew hdg z77
  have n_wl_W9 : dif wl W9 := mm_nenew hwl z77
  have n_rm_W9 : dif rm W9 := mm_nenew hrm z77
  have n_sw_W9 : dif sw W9 := mm_nenew hsw z77
  have n_co_W9 : dif co W9 := mm_nenew hco z77
  have n_lr_W9 : dif lr W9 := mm_nenew hlr z77
  have n_hi_W9 : dif hi W9 := mm_nenew hhi z77
  have n_Ls_W9 : dif Ls W9 := mm_nenew hLs z77
  have n_dn_W9 : dif dn W9 := mm_nenew hdn z77
  have n_F_W9 : dif F W9 := mm_nenew hF0 z77
  have n_ca_W9 : dif ca W9 := mm_nenew hca z77
  have n_la_W9 : dif la W9 := mm_nenew hla z77
  have nn_W9 : M W9 = none := hF.none z77 (mm_oc hX mm_o0)
  have hX := f76.at hX mm_n0
  have hs1 := f76.at hs1 mm_n0
  have hs2 := f76.at hs2 mm_n0
  have hs3 := f76.at hs3 mm_n0
  have hm0 := f76.at hm0 mm_n0
  have hm5 := f76.at hm5 mm_n0
  have hm6 := f76.at hm6 mm_n0
  have hm7 := f76.at hm7 mm_n0
  have hm8 := f76.at hm8 mm_n0
  have hdg := f76.at hdg mm_n0
  have hwl := f76.at hwl mm_n0
  have hrm := f76.at hrm mm_n0
  have hsw := f76.at hsw mm_n0
  have hco := f76.at hco mm_n0
  have hlr := f76.at hlr mm_n0
  have hhi := f76.at hhi mm_n0
  have hLs := f76.at hLs mm_n0
  have hdn := f76.at hdn mm_n0
  have hF0 := f76.at hF0 mm_n0
  have hca := f76.at hca mm_n0
  have hla := f76.at hla mm_n0
  have hW9 : M75 W9 = some (ob 8 [.null, .null, .null]) := hW9
  have hF := hF.tr f76 mm_i0
  have nW9 := halB.ne z77
  have halC := halB.mv f76 mm_o0
  refine lv_dup hx hb dX8_init_115 rfl ?_
  refine mm_callv hA hR (va_runI (As := []) (rest := [.ref W9]) S (c_X7_init l G M75 _ W9 hW9) (cwI 0 S.2.2.2.2 gX8_init_X7_init rfl rfl rfl (S.2.2.2.2 (.initialized RX7) (by decide +kernel)) (S.2.2.2.2 (.methodLink RX8 75 yX7_init) (by decide +kernel)) (S.2.2.2.2 (.instanceMethod yX7_init) (by decide +kernel)) rfl (by decide +kernel) ⟨Nat.le_of_ble_eq_true rfl, Nat.le_of_ble_eq_true rfl⟩) (mm_preS hC hA hR _) rfl rfl hl.1 rfl (lv_room (Nat.le_of_ble_eq_true rfl)) dX8_init_116 ⟨Nat.le_of_ble_eq_true rfl, Nat.le_of_ble_eq_true rfl⟩) (fun M79 H locs hp hR => ?_)
  obtain ⟨wd, ew0, hwI, hwn, hwo, ff⟩ := hp
  have nn_wd : ∀ i, i < 15 → M (wd i) = none := fun i hi => by
    by_cases e : i = 0
    · subst e
      rw [ew0]
      exact nn_W9
    · exact hF.none (hwn i (by omega) hi) (mm_oc hX mm_o0)
  have hal := (halC.mv ff (mm_oc (show _ = some _ by rw [← ew0]; exact hwo.1) mm_o0)).insW hwI (fun r hr => by first | omega | (dsimp only at hr; omega)) (fun i hi => by
    by_cases e : i = 0
    · subst e
      rw [ew0]
      exact nW9
    · exact halC.ne (hwn i (by omega) hi)) hwo.has nn_wd
  subst ew0
  have hwR := hwo.has
  have nwd : ∀ r i, i < 15 → ((r < 18 ∧ r ≠ 11) ∨ (19 ≤ r ∧ r < 23)) → ∀ q, adW _ wd 0 r = q → wd i ≠ q := fun r i hi hr q hq e => by
    have z := hal.1 r (100 + i) (by first | omega | (dsimp only; omega)) (by first | omega | (dsimp only; omega)) (by rw [hq, ← e]; exact (adW_w (nw := 0) hi).symm)
    omega
  have nw_X : ∀ i, i < 15 → wd i ≠ X := fun i h15 => nwd 0 i h15 (by omega) X rfl
  have nw_sh : ∀ i, i < 15 → wd i ≠ sh := fun i h15 => nwd 1 i h15 (by omega) sh rfl
  have nw_s2 : ∀ i, i < 15 → wd i ≠ s2 := fun i h15 => nwd 2 i h15 (by omega) s2 rfl
  have nw_s3 : ∀ i, i < 15 → wd i ≠ s3 := fun i h15 => nwd 3 i h15 (by omega) s3 rfl
  have nw_mc : ∀ i, i < 15 → wd i ≠ mc := fun i h15 => nwd 4 i h15 (by omega) mc rfl
  have nw_m5 : ∀ i, i < 15 → wd i ≠ m5 := fun i h15 => nwd 5 i h15 (by omega) m5 rfl
  have nw_m6 : ∀ i, i < 15 → wd i ≠ m6 := fun i h15 => nwd 6 i h15 (by omega) m6 rfl
  have nw_m7 : ∀ i, i < 15 → wd i ≠ m7 := fun i h15 => nwd 7 i h15 (by omega) m7 rfl
  have nw_m8 : ∀ i, i < 15 → wd i ≠ m8 := fun i h15 => nwd 8 i h15 (by omega) m8 rfl
  have nw_dg : ∀ i, i < 15 → wd i ≠ dg := fun i h15 => nwd 9 i h15 (by omega) dg rfl
  have nw_wl : ∀ i, i < 15 → wd i ≠ wl := fun i h15 => nwd 10 i h15 (by omega) wl rfl
  have nw_rm : ∀ i, i < 15 → wd i ≠ rm := fun i h15 => nwd 12 i h15 (by omega) rm rfl
  have nw_sw : ∀ i, i < 15 → wd i ≠ sw := fun i h15 => nwd 13 i h15 (by omega) sw rfl
  have nw_co : ∀ i, i < 15 → wd i ≠ co := fun i h15 => nwd 14 i h15 (by omega) co rfl
  have nw_lr : ∀ i, i < 15 → wd i ≠ lr := fun i h15 => nwd 15 i h15 (by omega) lr rfl
  have nw_hi : ∀ i, i < 15 → wd i ≠ hi := fun i h15 => nwd 16 i h15 (by omega) hi rfl
  have nw_Ls : ∀ i, i < 15 → wd i ≠ Ls := fun i h15 => nwd 17 i h15 (by omega) Ls rfl
  have nw_dn : ∀ i, i < 15 → wd i ≠ dn := fun i h15 => nwd 19 i h15 (by omega) dn rfl
  have nw_F : ∀ i, i < 15 → wd i ≠ F := fun i h15 => nwd 20 i h15 (by omega) F rfl
  have nw_ca : ∀ i, i < 15 → wd i ≠ ca := fun i h15 => nwd 21 i h15 (by omega) ca rfl
  have nw_la : ∀ i, i < 15 → wd i ≠ la := fun i h15 => nwd 22 i h15 (by omega) la rfl
  have hX := ff.at hX (mm_nc (Ne.symm (nw_X 0 (by decide))) mm_n0)
  have hs1 := ff.at hs1 (mm_nc (Ne.symm (nw_sh 0 (by decide))) mm_n0)
  have hs2 := ff.at hs2 (mm_nc (Ne.symm (nw_s2 0 (by decide))) mm_n0)
  have hs3 := ff.at hs3 (mm_nc (Ne.symm (nw_s3 0 (by decide))) mm_n0)
  have hm0 := ff.at hm0 (mm_nc (Ne.symm (nw_mc 0 (by decide))) mm_n0)
  have hm5 := ff.at hm5 (mm_nc (Ne.symm (nw_m5 0 (by decide))) mm_n0)
  have hm6 := ff.at hm6 (mm_nc (Ne.symm (nw_m6 0 (by decide))) mm_n0)
  have hm7 := ff.at hm7 (mm_nc (Ne.symm (nw_m7 0 (by decide))) mm_n0)
  have hm8 := ff.at hm8 (mm_nc (Ne.symm (nw_m8 0 (by decide))) mm_n0)
  have hdg := ff.at hdg (mm_nc (Ne.symm (nw_dg 0 (by decide))) mm_n0)
  have hwl := ff.at hwl (mm_nc (Ne.symm (nw_wl 0 (by decide))) mm_n0)
  have hrm := ff.at hrm (mm_nc (Ne.symm (nw_rm 0 (by decide))) mm_n0)
  have hsw := ff.at hsw (mm_nc (Ne.symm (nw_sw 0 (by decide))) mm_n0)
  have hco := ff.at hco (mm_nc (Ne.symm (nw_co 0 (by decide))) mm_n0)
  have hlr := ff.at hlr (mm_nc (Ne.symm (nw_lr 0 (by decide))) mm_n0)
  have hhi := ff.at hhi (mm_nc (Ne.symm (nw_hi 0 (by decide))) mm_n0)
  have hLs := ff.at hLs (mm_nc (Ne.symm (nw_Ls 0 (by decide))) mm_n0)
  have hdn := ff.at hdn (mm_nc (Ne.symm (nw_dn 0 (by decide))) mm_n0)
  have hF0 := ff.at hF0 (mm_nc (Ne.symm (nw_F 0 (by decide))) mm_n0)
  have hca := ff.at hca (mm_nc (Ne.symm (nw_ca 0 (by decide))) mm_n0)
  have hla := ff.at hla (mm_nc (Ne.symm (nw_la 0 (by decide))) mm_n0)
  have hF := hF.tr ff (mm_in (nn_wd 0 (by decide)) mm_i0)
  refine lv_astore_n (lv' := [(1, .ref (wd 0)), (0, .ref X)]) hx hb dX8_init_119 rfl hl (by decide) rfl (fun ls hl => ?_)
  obtain ⟨hw0, ⟨tf, hw1, htf⟩, hst, hw2, hw3, hw4, hw5, hw6⟩ := id hwo
  refine lv_aload_n hx hb dX8_init_120 rfl (lv_at hl 0 rfl) ?_
  refine mm_get S hC hR (C := RX7) (T := TX7) (N := 3) (ref := "ForkWatch$World") (v := .ref (wd 5)) 2 hw0 inRX7 rfl (by decide) (by decide +kernel) (fun _ h9 => h9) rfl dX8_init_121 ?_
  refine lv_aload_n hx hb dX8_init_124 rfl (lv_at hl 0 rfl) ?_
  refine mm_get S hC hR (C := RX7) (T := TX7) (N := 3) (ref := "ForkWatch$World") (v := .ref (wd 2)) 1 hw0 inRX7 rfl (by decide) (by decide +kernel) (fun _ h9 => h9) rfl dX8_init_125 ?_
  refine lv_aload_n hx hb dX8_init_128 rfl (lv_at hl 1 rfl) ?_
  refine mm_get S hC hR (C := RX8) (T := TX8) (N := 14) (ref := "ForkWatch") (v := .ref sh) 0 hX inRX8 rfl (by decide) (by decide +kernel) (fun _ h9 => h9) rfl dX8_init_129 ?_
  refine mm_callv hA hR (va_runV (As := [.ref (wd 2), .ref sh]) (rest := []) S (c_X6_build l G M79 _ (wd 5) (wd 6) (wd 2) (wd 3) (wd 4) sh s2 s3 (fun _ => 0) (fun _ => 0) (fun _ => 0) (fun _ => 0) _ _ _ _ hs1 hs2 hs3 hw5 hw6 hw2 hw3 hw4 (fun x _ => ⟨rfl, by omega⟩)) (cwV 2 S.2.2.2.2 gX8_init_X6_build rfl rfl rfl (by decide +kernel) ⟨Nat.le_of_ble_eq_true rfl, Nat.le_of_ble_eq_true rfl⟩) (mm_preV hC hA hR _ hw5 rfl) rfl rfl hl.1 rfl (lv_room (Nat.le_of_ble_eq_true rfl)) dX8_init_132 ⟨Nat.le_of_ble_eq_true rfl, Nat.le_of_ble_eq_true rfl⟩) (fun M81 H locs hp hR => ?_)
  obtain ⟨tn0, e6, htr, ⟨qf1, qg1, qa1, qb1, e1, e2, e3⟩, ff⟩ := hp
  have hL4 : ∀ i, i < 15 → i ≠ 3 → i ≠ 4 → i ≠ 6 → wd i ∉ [sh, s2, s3, wd 6] := fun i hi _ _ a6 => mm_nc (nw_sh i hi) (mm_nc (nw_s2 i hi) (mm_nc (nw_s3 i hi) (mm_nc (wo_ne hwI hi (by omega) a6) mm_n0)))
  have hwo := hwo.body ff hL4 (ff.at hw3 (mm_nc (nw_sh 3 (by omega)) (mm_nc (nw_s2 3 (by omega)) (mm_nc (nw_s3 3 (by omega)) (mm_nc (wo_ne hwI (by omega) (by omega) (by omega)) mm_n0))))) (ff.at hw4 (mm_nc (nw_sh 4 (by omega)) (mm_nc (nw_s2 4 (by omega)) (mm_nc (nw_s3 4 (by omega)) (mm_nc (wo_ne hwI (by omega) (by omega) (by omega)) mm_n0))))) e6
  have hal := hal.mv ff (mm_oc e1 (mm_oc e2 (mm_oc e3 (mm_oc e6 mm_o0))))
  have hX := ff.at hX (mm_nc n_X_sh (mm_nc n_X_s2 (mm_nc n_X_s3 (mm_nc (Ne.symm (nw_X 6 (by decide))) mm_n0))))
  have hm0 := ff.at hm0 (mm_nc (Ne.symm n_sh_mc) (mm_nc (Ne.symm n_s2_mc) (mm_nc (Ne.symm n_s3_mc) (mm_nc (Ne.symm (nw_mc 6 (by decide))) mm_n0))))
  have hm5 := ff.at hm5 (mm_nc (Ne.symm n_sh_m5) (mm_nc (Ne.symm n_s2_m5) (mm_nc (Ne.symm n_s3_m5) (mm_nc (Ne.symm (nw_m5 6 (by decide))) mm_n0))))
  have hm6 := ff.at hm6 (mm_nc (Ne.symm n_sh_m6) (mm_nc (Ne.symm n_s2_m6) (mm_nc (Ne.symm n_s3_m6) (mm_nc (Ne.symm (nw_m6 6 (by decide))) mm_n0))))
  have hm7 := ff.at hm7 (mm_nc (Ne.symm n_sh_m7) (mm_nc (Ne.symm n_s2_m7) (mm_nc (Ne.symm n_s3_m7) (mm_nc (Ne.symm (nw_m7 6 (by decide))) mm_n0))))
  have hm8 := ff.at hm8 (mm_nc (Ne.symm n_sh_m8) (mm_nc (Ne.symm n_s2_m8) (mm_nc (Ne.symm n_s3_m8) (mm_nc (Ne.symm (nw_m8 6 (by decide))) mm_n0))))
  have hdg := ff.at hdg (mm_nc (Ne.symm n_sh_dg) (mm_nc (Ne.symm n_s2_dg) (mm_nc (Ne.symm n_s3_dg) (mm_nc (Ne.symm (nw_dg 6 (by decide))) mm_n0))))
  have hwl := ff.at hwl (mm_nc (Ne.symm n_sh_wl) (mm_nc (Ne.symm n_s2_wl) (mm_nc (Ne.symm n_s3_wl) (mm_nc (Ne.symm (nw_wl 6 (by decide))) mm_n0))))
  have hrm := ff.at hrm (mm_nc (Ne.symm n_sh_rm) (mm_nc (Ne.symm n_s2_rm) (mm_nc (Ne.symm n_s3_rm) (mm_nc (Ne.symm (nw_rm 6 (by decide))) mm_n0))))
  have hsw := ff.at hsw (mm_nc (Ne.symm n_sh_sw) (mm_nc (Ne.symm n_s2_sw) (mm_nc (Ne.symm n_s3_sw) (mm_nc (Ne.symm (nw_sw 6 (by decide))) mm_n0))))
  have hco := ff.at hco (mm_nc (Ne.symm n_sh_co) (mm_nc (Ne.symm n_s2_co) (mm_nc (Ne.symm n_s3_co) (mm_nc (Ne.symm (nw_co 6 (by decide))) mm_n0))))
  have hlr := ff.at hlr (mm_nc (Ne.symm n_sh_lr) (mm_nc (Ne.symm n_s2_lr) (mm_nc (Ne.symm n_s3_lr) (mm_nc (Ne.symm (nw_lr 6 (by decide))) mm_n0))))
  have hhi := ff.at hhi (mm_nc (Ne.symm n_sh_hi) (mm_nc (Ne.symm n_s2_hi) (mm_nc (Ne.symm n_s3_hi) (mm_nc (Ne.symm (nw_hi 6 (by decide))) mm_n0))))
  have hLs := ff.at hLs (mm_nc (Ne.symm n_sh_Ls) (mm_nc (Ne.symm n_s2_Ls) (mm_nc (Ne.symm n_s3_Ls) (mm_nc (Ne.symm (nw_Ls 6 (by decide))) mm_n0))))
  have hdn := ff.at hdn (mm_nc (Ne.symm n_sh_dn) (mm_nc (Ne.symm n_s2_dn) (mm_nc (Ne.symm n_s3_dn) (mm_nc (Ne.symm (nw_dn 6 (by decide))) mm_n0))))
  have hF0 := ff.at hF0 (mm_nc (Ne.symm n_sh_F) (mm_nc (Ne.symm n_s2_F) (mm_nc (Ne.symm n_s3_F) (mm_nc (Ne.symm (nw_F 6 (by decide))) mm_n0))))
  have hca := ff.at hca (mm_nc (Ne.symm n_sh_ca) (mm_nc (Ne.symm n_s2_ca) (mm_nc (Ne.symm n_s3_ca) (mm_nc (Ne.symm (nw_ca 6 (by decide))) mm_n0))))
  have hla := ff.at hla (mm_nc (Ne.symm n_sh_la) (mm_nc (Ne.symm n_s2_la) (mm_nc (Ne.symm n_s3_la) (mm_nc (Ne.symm (nw_la 6 (by decide))) mm_n0))))
  have hs1 : M81 sh = some (ob 5 [.ref s2, .ref s3, .int qa1, .int qb1]) := e1
  have hs2 : M81 s2 = some (ia G 8 qf1) := e2
  have hs3 : M81 s3 = some (ia G 64 qg1) := e3
  have hF := hF.tr ff (mm_in nn_sh (mm_in nn_s2 (mm_in nn_s3 (mm_in (nn_wd 6 (by decide)) mm_i0))))
  refine lv_iconst (v := nI 0) hx hb dX8_init_135 (by decide) ?_
  refine lv_istore_n (lv' := [(2, .int (nI 0)), (1, .ref (wd 0)), (0, .ref X)]) hx hb dX8_init_136 rfl hl (by decide) rfl (fun ls hl => ?_)
  obtain ⟨mb, emb⟩ : ∃ z : mm_M, z = M81 := ⟨_, rfl⟩
  generalize hadb : adW _ wd 0 = ab at hal
  have loop : ∀ (n x : Nat) (ax : Nat → Nat) (rf : Nat → Option Nat) (st : Nat → Nat → Int32) (M1 : mm_M) (H : Heap) (locs : List Loc) (ls : Array Slot), (4 < x + n) → (x ≤ 4) → (∀ r, r < 24 ∨ 32 ≤ r → ax r = ab r) → (M1 rm = some (sa G 4 rf)) → (∀ c, c < x → rf c = some (ax (24 + 2 * c))) → (∀ c, c < x → M1 (ax (24 + 2 * c)) = some (ob 6 [.ref (ax (25 + 2 * c))]) ∧ M1 (ax (25 + 2 * c)) = some (ia G 84 (sgn tn0 (s0 c)))) → (woA G M1 wd st (fun _ => 0) (fun _ => 0) tn0) → (∀ c, c < x → st c = va_cpy (sgn tn0 (s0 c)) (s0 c) 0 0 84) → (∀ c, x ≤ c → st c = s0 c) → (mcJ G M1 mc m5 m6 m7 m8) → (M1 X = some (ob 9 [.ref sh, .ref mc, .ref dg, .ref wl, .ref rm, .ref sw, .ref co, .int (nI 0), .ref lr, .int (nI 0), .ref hi, .int (nI 0), .int (nI 0), .int (nI 0)])) → (mm_fr [rm, m5, m6, m7, m8, wd 8, wd 10, wd 12, wd 14] M81 M1) → (mm_fr [X] M M1) → (al M (fun r => ((r < 18 ∧ r ≠ 11) ∨ (19 ≤ r ∧ r < 23) ∨ (100 ≤ r ∧ r < 115)) ∨ (24 ≤ r ∧ r < 24 + 2 * x)) ax M1) → mm_R G s (mm_A M sz) M1 H locs → lv_has ls 3 [(0, .ref X), (1, .ref (wd 0)), (2, .int (nI x))] → W p0 l e0 ({ frames := 8, cells := 44, slots := 3447, locals := 280 } : Room) s m0 ([.ref X] : List Value).toArray be0 me0 c0 H locs (35 + 2 * x) (2107 + 85 * x) (MQ be0 (va_Qv (fun M' => ∃ (ad : Nat → Nat) (tn0 : Nat → Int32), ad 0 = X ∧ xI ad 1 0 ∧ ad 18 = G.2.2.2.2.1 ∧ (∀ r, xD 1 0 r → r ≠ 0 → M (ad r) = none) ∧ tOK (fun _ => 0) (fun _ => 0) tn0 (fun _ => 0) ∧ xA G M' ad (0 : Nat) (0 : Nat) (nI 0) (nI 0) (nI 0) (fun _ => 0) (fun _ => 0) (fun _ => 0) (fun c => sgn tn0 (s0 c)) 1 (fun _ c => va_cpy (sgn tn0 (s0 c)) (s0 c) 0 0 84) (fun _ _ => 0) (fun _ _ => 0) (fun _ => tn0) (fun _ _ => 0) 0 (fun _ => (0, 0, 0, 0, 0, fun _ => 0)) (fun _ => 0) ∧ mm_fr [X] M M') (fun M' t => mm_H G (mm_A M sz) M' t.heap) (mm_A M sz)) ([.ref X] : List Value).toArray s 44 3447 (mm_A M sz)) (F0 m0 137 ls []) := by
    intro n
    induction n with
    | zero =>
      intro x ax rf st M1 H locs ls hn hx4 hag hrm hrf hre hwo hst1 hst2 hmc hX hFB hF hal hR hl
      omega
    | succ n ih =>
      intro x ax rf st M1 H locs ls hn hx4 hag hrm hrf hre hwo hst1 hst2 hmc hX hFB hF hal hR hl
      refine lv_iload_n hx hb dX8_init_137 rfl (lv_at hl 2 rfl) ?_
      refine lv_iconst (v := nI 4) hx hb dX8_init_138 (by decide) ?_
      refine lv_icmp_ge (tgt := 191) hx hb dX8_init_139 (by decide) (fun c82 => ?_) (fun c82 => ?_)
      · have c82 : 4 ≤ x := (nI_leI (a := 4) (b := x) (by omega) (by omega)).mp c82
        have e4 : x = 4 := by omega
        subst e4
        have nB : ∀ a, (∀ i, i < 15 → wd i ≠ a) → a ≠ rm → a ≠ m5 → a ≠ m6 → a ≠ m7 → a ≠ m8 → a ∉ [rm, m5, m6, m7, m8, wd 8, wd 10, wd 12, wd 14] := fun a hw a1 a2 a3 a4 a5 => mm_nc a1 (mm_nc a2 (mm_nc a3 (mm_nc a4 (mm_nc a5 (mm_nc (Ne.symm (hw 8 (by omega))) (mm_nc (Ne.symm (hw 10 (by omega))) (mm_nc (Ne.symm (hw 12 (by omega))) (mm_nc (Ne.symm (hw 14 (by omega))) mm_n0))))))))
        have hs1 := hFB.at hs1 (nB sh nw_sh n_sh_rm n_sh_m5 n_sh_m6 n_sh_m7 n_sh_m8)
        have hs2 := hFB.at hs2 (nB s2 nw_s2 n_s2_rm n_s2_m5 n_s2_m6 n_s2_m7 n_s2_m8)
        have hs3 := hFB.at hs3 (nB s3 nw_s3 n_s3_rm n_s3_m5 n_s3_m6 n_s3_m7 n_s3_m8)
        have hdg := hFB.at hdg (nB dg nw_dg n_dg_rm (Ne.symm n_m5_dg) (Ne.symm n_m6_dg) (Ne.symm n_m7_dg) (Ne.symm n_m8_dg))
        have hwl := hFB.at hwl (nB wl nw_wl n_wl_rm (Ne.symm n_m5_wl) (Ne.symm n_m6_wl) (Ne.symm n_m7_wl) (Ne.symm n_m8_wl))
        have hsw := hFB.at hsw (nB sw nw_sw (Ne.symm n_rm_sw) (Ne.symm n_m5_sw) (Ne.symm n_m6_sw) (Ne.symm n_m7_sw) (Ne.symm n_m8_sw))
        have hco := hFB.at hco (nB co nw_co (Ne.symm n_rm_co) (Ne.symm n_m5_co) (Ne.symm n_m6_co) (Ne.symm n_m7_co) (Ne.symm n_m8_co))
        have hlr := hFB.at hlr (nB lr nw_lr (Ne.symm n_rm_lr) (Ne.symm n_m5_lr) (Ne.symm n_m6_lr) (Ne.symm n_m7_lr) (Ne.symm n_m8_lr))
        have hhi := hFB.at hhi (nB hi nw_hi (Ne.symm n_rm_hi) (Ne.symm n_m5_hi) (Ne.symm n_m6_hi) (Ne.symm n_m7_hi) (Ne.symm n_m8_hi))
        have hLs := hFB.at hLs (nB Ls nw_Ls (Ne.symm n_rm_Ls) (Ne.symm n_m5_Ls) (Ne.symm n_m6_Ls) (Ne.symm n_m7_Ls) (Ne.symm n_m8_Ls))
        have hdn := hFB.at hdn (nB dn nw_dn (Ne.symm n_rm_dn) (Ne.symm n_m5_dn) (Ne.symm n_m6_dn) (Ne.symm n_m7_dn) (Ne.symm n_m8_dn))
        have hF0 := hFB.at hF0 (nB F nw_F (Ne.symm n_rm_F) (Ne.symm n_m5_F) (Ne.symm n_m6_F) (Ne.symm n_m7_F) (Ne.symm n_m8_F))
        have hca := hFB.at hca (nB ca nw_ca (Ne.symm n_rm_ca) (Ne.symm n_m5_ca) (Ne.symm n_m6_ca) (Ne.symm n_m7_ca) (Ne.symm n_m8_ca))
        have hla := hFB.at hla (nB la nw_la (Ne.symm n_rm_la) (Ne.symm n_m5_la) (Ne.symm n_m6_la) (Ne.symm n_m7_la) (Ne.symm n_m8_la))
        obtain ⟨hw0, -⟩ := id hwo
        refine lv_aload_n hx hb dX8_init_191 rfl (lv_at hl 0 rfl) ?_
        refine mm_get S hC hR (C := RX8) (T := TX8) (N := 14) (ref := "ForkWatch") (v := .ref wl) 3 hX inRX8 rfl (by decide) (by decide +kernel) (fun _ h9 => h9) rfl dX8_init_192 ?_
        refine lv_aload_n hx hb dX8_init_195 rfl (lv_at hl 1 rfl) ?_
        refine mm_calli hA hR (va_runV (As := [.ref (wd 0)]) (rest := []) S (c_add_8_first l G M1 _ wl (wd 0) (nI 0) _ hwl hw0) (cwV 1 S.2.2.2.2 gX8_init_Jx4a65c_add_9ea2d rfl rfl rfl (by decide +kernel) ⟨Nat.le_of_ble_eq_true rfl, Nat.le_of_ble_eq_true rfl⟩) (mm_preV hC hA hR _ hwl rfl) rfl rfl hl.1 rfl (lv_room (Nat.le_of_ble_eq_true rfl)) dX8_init_196 ⟨by show 35 + 2 * 4 + 1 ≤ 44; omega, by show 2107 + 85 * 4 + 1000 ≤ 3447; omega⟩) (fun r83 M84 H locs hp hR => ?_)
        obtain ⟨q, yq, e1, ⟨lm, e2⟩, ff⟩ := hp
        have nn_q : M q = none := hF.none yq (mm_oc hX mm_o0)
        have hal2 := (hal.mv ff (mm_oc e2 mm_o0)).ins (k := 11) (by first | omega | (dsimp only; omega)) (mm_some e1) nn_q (hal.ne yq)
        have hwo := hwo.out ff (fun i hi => mm_nc (nw_wl i hi) mm_n0)
        obtain ⟨km0, ⟨mf, mg, ma, mb1, km1, km2, km3⟩, mi, km4⟩ := hmc
        have hmc : mcJ G M84 mc m5 m6 m7 m8 := ⟨ff.at km0 (mm_nc (mm_neoo km0 hwl (by decide)) mm_n0), ⟨mf, mg, ma, mb1, ff.at km1 (mm_nc (mm_neoo km1 hwl (by decide)) mm_n0), ff.at km2 (mm_nc (Ne.symm (mm_neoi hwl km2)) mm_n0), ff.at km3 (mm_nc (Ne.symm (mm_neoi hwl km3)) mm_n0)⟩, mi, ff.at km4 (mm_nc (Ne.symm (mm_neoi hwl km4)) mm_n0)⟩
        have hre2 : ∀ c, c < 4 → M84 (ax (24 + 2 * c)) = some (ob 6 [.ref (ax (25 + 2 * c))]) ∧ M84 (ax (25 + 2 * c)) = some (ia G 84 (sgn tn0 (s0 c))) := fun c hc => ⟨ff.at (hre c hc).1 (mm_nc (mm_neoo (hre c hc).1 hwl (by decide)) mm_n0), ff.at (hre c hc).2 (mm_nc (Ne.symm (mm_neoi hwl (hre c hc).2)) mm_n0)⟩
        have hX := ff.at hX (mm_nc n_X_wl mm_n0)
        have hrm := ff.at hrm (mm_nc (Ne.symm n_wl_rm) mm_n0)
        have hs1 := ff.at hs1 (mm_nc n_sh_wl mm_n0)
        have hs2 := ff.at hs2 (mm_nc n_s2_wl mm_n0)
        have hs3 := ff.at hs3 (mm_nc n_s3_wl mm_n0)
        have hdg := ff.at hdg (mm_nc n_dg_wl mm_n0)
        have hsw := ff.at hsw (mm_nc (Ne.symm n_wl_sw) mm_n0)
        have hco := ff.at hco (mm_nc (Ne.symm n_wl_co) mm_n0)
        have hlr := ff.at hlr (mm_nc (Ne.symm n_wl_lr) mm_n0)
        have hhi := ff.at hhi (mm_nc (Ne.symm n_wl_hi) mm_n0)
        have hLs := ff.at hLs (mm_nc (Ne.symm n_wl_Ls) mm_n0)
        have hdn := ff.at hdn (mm_nc (Ne.symm n_wl_dn) mm_n0)
        have hF0 := ff.at hF0 (mm_nc (Ne.symm n_wl_F) mm_n0)
        have hca := ff.at hca (mm_nc (Ne.symm n_wl_ca) mm_n0)
        have hla := ff.at hla (mm_nc (Ne.symm n_wl_la) mm_n0)
        have hwl : M84 wl = some (ob 0 [.int lm, .ref q, .int (nI 1)]) := e2
        have hF := hF.tr ff (mm_in nn_wl mm_i0)
        refine lv_pop hx hb dX8_init_199 rfl ?_
        obtain ⟨av, eav⟩ : ∃ z : Nat → Nat, z = upN (upN ax 11 q) 18 G.2.2.2.2.1 := ⟨_, rfl⟩
        have av1 : ∀ r, r ≠ 11 → r ≠ 18 → av r = ax r := fun r h1 h2 => by rw [eav]; unfold upN; rw [if_neg h2, if_neg h1]
        have av11 : av 11 = q := by rw [eav]; rfl
        have av18 : av 18 = G.2.2.2.2.1 := by rw [eav]; rfl
        have avu : ∀ r, r ≠ 18 → av r = upN ax 11 q r := fun r h => by rw [eav]; unfold upN; rw [if_neg h]
        have a0 : av 0 = X := (av1 0 (by decide) (by decide)).trans ((hag 0 (by omega)).trans (by rw [← hadb]; rfl))
        have a1 : av 1 = sh := (av1 1 (by decide) (by decide)).trans ((hag 1 (by omega)).trans (by rw [← hadb]; rfl))
        have a2 : av 2 = s2 := (av1 2 (by decide) (by decide)).trans ((hag 2 (by omega)).trans (by rw [← hadb]; rfl))
        have a3 : av 3 = s3 := (av1 3 (by decide) (by decide)).trans ((hag 3 (by omega)).trans (by rw [← hadb]; rfl))
        have a4 : av 4 = mc := (av1 4 (by decide) (by decide)).trans ((hag 4 (by omega)).trans (by rw [← hadb]; rfl))
        have a5 : av 5 = m5 := (av1 5 (by decide) (by decide)).trans ((hag 5 (by omega)).trans (by rw [← hadb]; rfl))
        have a6 : av 6 = m6 := (av1 6 (by decide) (by decide)).trans ((hag 6 (by omega)).trans (by rw [← hadb]; rfl))
        have a7 : av 7 = m7 := (av1 7 (by decide) (by decide)).trans ((hag 7 (by omega)).trans (by rw [← hadb]; rfl))
        have a8 : av 8 = m8 := (av1 8 (by decide) (by decide)).trans ((hag 8 (by omega)).trans (by rw [← hadb]; rfl))
        have a9 : av 9 = dg := (av1 9 (by decide) (by decide)).trans ((hag 9 (by omega)).trans (by rw [← hadb]; rfl))
        have a10 : av 10 = wl := (av1 10 (by decide) (by decide)).trans ((hag 10 (by omega)).trans (by rw [← hadb]; rfl))
        have a12 : av 12 = rm := (av1 12 (by decide) (by decide)).trans ((hag 12 (by omega)).trans (by rw [← hadb]; rfl))
        have a13 : av 13 = sw := (av1 13 (by decide) (by decide)).trans ((hag 13 (by omega)).trans (by rw [← hadb]; rfl))
        have a14 : av 14 = co := (av1 14 (by decide) (by decide)).trans ((hag 14 (by omega)).trans (by rw [← hadb]; rfl))
        have a15 : av 15 = lr := (av1 15 (by decide) (by decide)).trans ((hag 15 (by omega)).trans (by rw [← hadb]; rfl))
        have a16 : av 16 = hi := (av1 16 (by decide) (by decide)).trans ((hag 16 (by omega)).trans (by rw [← hadb]; rfl))
        have a17 : av 17 = Ls := (av1 17 (by decide) (by decide)).trans ((hag 17 (by omega)).trans (by rw [← hadb]; rfl))
        have a19 : av 19 = dn := (av1 19 (by decide) (by decide)).trans ((hag 19 (by omega)).trans (by rw [← hadb]; rfl))
        have a20 : av 20 = F := (av1 20 (by decide) (by decide)).trans ((hag 20 (by omega)).trans (by rw [← hadb]; rfl))
        have a21 : av 21 = ca := (av1 21 (by decide) (by decide)).trans ((hag 21 (by omega)).trans (by rw [← hadb]; rfl))
        have a22 : av 22 = la := (av1 22 (by decide) (by decide)).trans ((hag 22 (by omega)).trans (by rw [← hadb]; rfl))
        have awd : ∀ i, i < 15 → xW av 0 i = wd i := fun i hi => (av1 (100 + 15 * 0 + i) (by omega) (by omega)).trans ((hag _ (by omega)).trans (by rw [← hadb]; exact adW_w hi))
        have hxi : xI av 1 0 := fun r r2 hr hr2 e => by
          unfold xD at hr hr2
          rw [avu r (by omega), avu r2 (by omega)] at e
          exact hal2.1 r r2 (by first | omega | (dsimp only; omega)) (by first | omega | (dsimp only; omega)) e
        have hnone : ∀ r, xD 1 0 r → r ≠ 0 → M (av r) = none := fun r hr h0 => by
          unfold xD at hr
          rw [avu r (by omega)]
          exact hal2.2.2 r (by first | omega | (dsimp only; omega)) h0
        have hxa : xA G M84 av (0 : Nat) (0 : Nat) (nI 0) (nI 0) (nI 0) (fun _ => 0) (fun _ => 0) (fun _ => 0) (fun c => sgn tn0 (s0 c)) 1 (fun _ c => va_cpy (sgn tn0 (s0 c)) (s0 c) 0 0 84) (fun _ _ => 0) (fun _ _ => 0) (fun _ => tn0) (fun _ _ => 0) 0 (fun _ => (0, 0, 0, 0, 0, fun _ => 0)) (fun _ => 0) := by
          unfold xA
          rw [a0, a1, a2, a3, a4, a5, a6, a7, a8, a9, a10, av11, a12, a13, a14, a15, a16, a17, av18, a19, a20, a21, a22]
          refine ⟨hX, ⟨_, _, _, _, hs1, hs2, hs3⟩, hmc, ⟨_, hdg⟩, ⟨lm, _, hwl, e1, fun j hj => ?_⟩, ⟨rf, hrm, fun c hc => ?_⟩, fun c hc => ?_, ⟨_, hsw, fun c _ => rfl⟩, hco, hlr, hhi, ⟨⟨_, hLs⟩, Or.inl ⟨rfl, rfl⟩, fun i hi => absurd hi (Nat.not_lt_zero i)⟩, ⟨_, hdn, fun c _ => rfl⟩, ⟨_, _, hF0, hca, hla⟩, fun j hj => ?_⟩
          · have e : j = 0 := by omega
            subst e
            rw [va_up_self, awd 0 (by omega)]
          · rw [hrf c hc, av1 _ (by omega) (by omega)]
          · rw [av1 _ (by omega) (by omega), av1 (25 + 2 * c) (by omega) (by omega)]
            exact hre2 c hc
          · have e : j = 0 := by omega
            subst e
            have z : woA G M84 wd (fun c => va_cpy (sgn tn0 (s0 c)) (s0 c) 0 0 84) (fun _ => 0) (fun _ => 0) tn0 := by
              obtain ⟨w0, w1, ws, w2⟩ := hwo
              exact ⟨w0, w1, fun c hc => ⟨(ws c hc).1, by have z := (ws c hc).2; rw [hst1 c hc] at z; exact z⟩, w2⟩
            exact z.ext awd
        refine W.widen (k := 44) (n := 3447) (by show 35 + 2 * 4 + 1 ≤ 44; omega) (by show 2107 + 85 * 4 + 1000 ≤ 3447; omega) ?_
        exact mm_vret S hr hlocks hR ⟨av, tn0, a0, hxi, av18, hnone, ⟨fun x _ => ⟨rfl, Nat.zero_le _⟩, htr⟩, hxa, hF⟩ dX8_init_200
      · have c82 : ¬ (4 ≤ x) := fun z => c82 ((nI_leI (a := 4) (b := x) (by omega) (by omega)).mpr z)
        refine lv_aload_n hx hb dX8_init_142 rfl (lv_at hl 0 rfl) ?_
        refine mm_get S hC hR (C := RX8) (T := TX8) (N := 14) (ref := "ForkWatch") (v := .ref rm) 4 hX inRX8 rfl (by decide) (by decide +kernel) (fun _ h9 => h9) rfl dX8_init_143 ?_
        refine lv_iload_n hx hb dX8_init_146 rfl (lv_at hl 2 rfl) ?_
        obtain ⟨km00, ⟨mf0, mg0, ma0, mb10, km10, km20, km30⟩, mi0, km40⟩ := id hmc
        have hFB0 := hFB
        have axr : ∀ r, r < 24 ∨ 32 ≤ r → ∀ a, ab r = a → a = ax r := fun r hr a ha => ha.symm.trans (hag r hr).symm
        refine mm_new (fs := [.null]) S hC hA hR (C := RX5) (T := TX5) (N := 1) (ci := 6) inRX5 rfl tyX5_ok (by decide +kernel) (by decide +kernel) (by decide +kernel) (fun j hj => by rcases (show j = 0 by omega) with rfl <;> rfl) (by show 35 + 2 * x + 1 ≤ 44; omega) (by show 2107 + 85 * x + 1 ≤ 3447; omega) dX8_init_147 (fun q H M85 z87 hq1 f86 hR => ?_)
        have n_X_q : dif X q := mm_nenew hX z87
        have n_rm_q : dif rm q := mm_nenew hrm z87
        have nn_q : M q = none := hF.none z87 (mm_oc hX mm_o0)
        have hX := f86.at hX mm_n0
        have hrm := f86.at hrm mm_n0
        have hq1 : M85 q = some (ob 6 [.null]) := hq1
        have hF := hF.tr f86 mm_i0
        have hFB := hFB.tr f86 mm_i0
        have nq : ∀ r, (fun r => ((r < 18 ∧ r ≠ 11) ∨ (19 ≤ r ∧ r < 23) ∨ (100 ≤ r ∧ r < 115)) ∨ (24 ≤ r ∧ r < 24 + 2 * x)) r → ax r ≠ q := hal.ne z87
        have hal1 := hal.mv f86 mm_o0
        have hwq : ∀ i, i < 15 → wd i ≠ q := fun i hi e => hwo.has i hi (by rw [e]; exact z87)
        have hwo := hwo.fr0 f86
        have hmc := hmc.fr0 f86
        have hFB1 := hFB
        obtain ⟨km01, ⟨mf1, mg1, ma1, mb11, km11, km21, km31⟩, mi1, km41⟩ := id hmc
        have hre := fun c hc => (⟨f86.at (hre c hc).1 mm_n0, f86.at (hre c hc).2 mm_n0⟩ : _ ∧ _)
        refine lv_dup hx hb dX8_init_150 rfl ?_
        refine lv_iload_n hx hb dX8_init_151 rfl (lv_at hl 2 rfl) ?_
        refine mm_callv hA hR (va_runI (As := [.int (nI x)]) (rest := [.ref q, .int (nI x), .ref rm]) S (c_X5_init l G M85 _ q (nI x) hq1) (cwI 1 S.2.2.2.2 gX8_init_X5_init rfl rfl rfl (S.2.2.2.2 (.initialized RX5) (by decide +kernel)) (S.2.2.2.2 (.methodLink RX8 90 yX5_init) (by decide +kernel)) (S.2.2.2.2 (.instanceMethod yX5_init) (by decide +kernel)) rfl (by decide +kernel) ⟨Nat.le_of_ble_eq_true rfl, Nat.le_of_ble_eq_true rfl⟩) (mm_preS hC hA hR _) rfl rfl hl.1 rfl (lv_room (Nat.le_of_ble_eq_true rfl)) dX8_init_152 ⟨by show 35 + 2 * x + 1 + 1 ≤ 44; omega, by show 2107 + 85 * x + 1 + 84 ≤ 3447; omega⟩) (fun M89 H locs hp hR => ?_)
        obtain ⟨b, y1, e1, e2, ff⟩ := hp
        have nb : ∀ r, (fun r => ((r < 18 ∧ r ≠ 11) ∨ (19 ≤ r ∧ r < 23) ∨ (100 ≤ r ∧ r < 115)) ∨ (24 ≤ r ∧ r < 24 + 2 * x)) r → ax r ≠ b := hal1.ne y1
        have hqb : q ≠ b := mm_nenew hq1 y1
        have nn_b : M b = none := hF.none y1 (mm_oc hX mm_o0)
        have hwb : ∀ i, i < 15 → wd i ≠ b := fun i hi e => hwo.has i hi (by rw [e]; exact y1)
        have hwo := hwo.out ff (fun i hi => mm_nc (hwq i hi) mm_n0)
        obtain ⟨km0, ⟨mf, mg, ma, mb1, km1, km2, km3⟩, mi, km4⟩ := id hmc
        have hmc := hmc.out ff (mm_nc (mm_neoo km0 hq1 (by decide)) mm_n0) (mm_nc (mm_neoo km1 hq1 (by decide)) mm_n0) (mm_nc (Ne.symm (mm_neoi hq1 km2)) mm_n0) (mm_nc (Ne.symm (mm_neoi hq1 km3)) mm_n0) (mm_nc (Ne.symm (mm_neoi hq1 km4)) mm_n0)
        have hqo : ∀ c, c < x → ax (24 + 2 * c) ≠ q ∧ ax (25 + 2 * c) ≠ q := fun c hc => ⟨nq _ (by first | omega | (dsimp only; omega)), nq _ (by first | omega | (dsimp only; omega))⟩
        have hbo : ∀ c, c < x → ax (24 + 2 * c) ≠ b ∧ ax (25 + 2 * c) ≠ b := fun c hc => ⟨nb _ (by first | omega | (dsimp only; omega)), nb _ (by first | omega | (dsimp only; omega))⟩
        have hre := fun c hc => (⟨ff.at (hre c hc).1 (mm_nc (hqo c hc).1 mm_n0), ff.at (hre c hc).2 (mm_nc (hqo c hc).2 mm_n0)⟩ : _ ∧ _)
        have hal2 := ((hal1.mv ff (mm_oc e1 mm_o0)).ins (k := 24 + 2 * x) (by first | omega | (dsimp only; omega)) (mm_some e1) nn_q nq).ins (k := 25 + 2 * x) (by first | omega | (dsimp only; omega)) (mm_some e2) nn_b (al_ne2 nb hqb)
        have n_rm_b : dif rm b := mm_nenew hrm y1
        have n_X_b : dif X b := mm_nenew hX y1
        have mbq : M81 q = none := by
          cases hz : M81 q with
          | none => rfl
          | some e => exact absurd (hFB0 q e hz (fun z => by simp only [List.mem_cons, List.not_mem_nil, or_false] at z; rcases z with z | z | z | z | z | z | z | z | z; exact n_rm_q z.symm; exact (mm_nenew km10 z87) z.symm; exact (mm_nenew km20 z87) z.symm; exact (mm_nenew km30 z87) z.symm; exact (mm_nenew km40 z87) z.symm; exact hwq 8 (by omega) z.symm; exact hwq 10 (by omega) z.symm; exact hwq 12 (by omega) z.symm; exact hwq 14 (by omega) z.symm)) (by rw [z87]; exact fun y => by cases y)
        have hFB := hFB.tr ff (mm_in mbq mm_i0)
        have hX := ff.at hX (mm_nc n_X_q mm_n0)
        have hrm := ff.at hrm (mm_nc n_rm_q mm_n0)
        have hq1 : M89 q = some (ob 6 [.ref b]) := e1
        have hb1 : M89 b = some (ia G 84 (s0 x)) := e2
        have hF := hF.tr ff (mm_in nn_q mm_i0)
        have hrm1 := hrm
        refine mm_sast S hC hR hrm hq1 (j := x) (by omega) (by omega) dX8_init_155 (fun H locs M90 g92 f91 hR => ?_)
        have hX := f91.at hX (mm_nc n_X_rm mm_n0)
        have hq1 := f91.at hq1 (mm_nc (Ne.symm n_rm_q) mm_n0)
        have hb1 := f91.at hb1 (mm_nc (Ne.symm n_rm_b) mm_n0)
        have hrm : M90 rm = some (sa G 4 (va_up rf x (some q))) := g92
        have hF := hF.tr f91 (mm_in nn_rm mm_i0)
        have hwo := hwo.out f91 (fun i hi => (mm_nc (nw_rm i hi) mm_n0))
        obtain ⟨km0, ⟨mf, mg, ma, mb1, km1, km2, km3⟩, mi, km4⟩ := id hmc
        have hmc := hmc.out f91 (mm_nc n_mc_rm mm_n0) (mm_nc n_m5_rm mm_n0) (mm_nc n_m6_rm mm_n0) (mm_nc n_m7_rm mm_n0) (mm_nc n_m8_rm mm_n0)
        have hro : ∀ c, c < x → ax (24 + 2 * c) ≠ rm ∧ ax (25 + 2 * c) ≠ rm := fun c hc => ⟨mm_neoi (hre c hc).1 hrm1, Ne.symm (mm_nesa hrm1 (hre c hc).2)⟩
        have hre := fun c hc => (⟨f91.at (hre c hc).1 (mm_nc (hro c hc).1 mm_n0), f91.at (hre c hc).2 (mm_nc (hro c hc).2 mm_n0)⟩ : _ ∧ _)
        have hFB := hFB.tr f91 (mm_ic 0 rfl mm_i0)
        have hal2 := hal2.mv f91 (mm_oc hrm mm_o0)
        obtain ⟨hw0, ⟨tf, hw1, htf⟩, hst, hw2, hw3, hw4, hw5, hw6⟩ := id hwo
        refine lv_aload_n hx hb dX8_init_156 rfl (lv_at hl 0 rfl) ?_
        refine lv_aload_n hx hb dX8_init_157 rfl (lv_at hl 0 rfl) ?_
        refine mm_get S hC hR (C := RX8) (T := TX8) (N := 14) (ref := "ForkWatch") (v := .ref rm) 4 hX inRX8 rfl (by decide) (by decide +kernel) (fun _ h9 => h9) rfl dX8_init_158 ?_
        refine lv_iload_n hx hb dX8_init_161 rfl (lv_at hl 2 rfl) ?_
        refine mm_sald S hC hR hrm (j := x) (v := .ref q) (by omega) (by omega) (by rw [va_up_self]; rfl) dX8_init_162 ?_
        refine lv_aload_n hx hb dX8_init_163 rfl (lv_at hl 1 rfl) ?_
        refine mm_get S hC hR (C := RX7) (T := TX7) (N := 3) (ref := "ForkWatch$World") (v := .ref (wd 5)) 2 hw0 inRX7 rfl (by decide) (by decide +kernel) (fun _ h9 => h9) rfl dX8_init_164 ?_
        refine mm_callv hA hR (va_runV (As := [.ref q, .ref (wd 5)]) (rest := []) S (c_X8_sign l G M90 _ X sh mc dg wl rm sw co lr hi 0 0 (nI 0) (nI 0) (nI 0) m5 m6 m7 m8 q b (wd 5) (wd 6) (s0 x) tn0 hX hq1 hb1 hw5 hw6 hmc) (cwV 2 S.2.2.2.2 gX8_init_X8_sign rfl rfl rfl (by decide +kernel) ⟨Nat.le_of_ble_eq_true rfl, Nat.le_of_ble_eq_true rfl⟩) (mm_preV hC hA hR _ hX rfl) rfl rfl hl.1 rfl (lv_room (Nat.le_of_ble_eq_true rfl)) dX8_init_167 ⟨by show 35 + 2 * x + 1 + 1 + 0 ≤ 44; omega, by show 2107 + 85 * x + 1 + 84 + 0 ≤ 3447; omega⟩) (fun M94 H locs hp hR => ?_)
        obtain ⟨km0, ⟨mf, mg, ma, mb1, km1, km2, km3⟩, mi, km4⟩ := id hmc
        obtain ⟨e1, hmc, ff⟩ := hp
        have hwo := hwo.out ff (fun i hi => mm_nc (nw_m5 i hi) (mm_nc (nw_m6 i hi) (mm_nc (nw_m7 i hi) (mm_nc (nw_m8 i hi) (mm_nc (hwb i hi) mm_n0)))))
        have hL5 : ∀ a, a ≠ m5 → a ≠ m6 → a ≠ m7 → a ≠ m8 → a ≠ b → a ∉ [m5, m6, m7, m8, b] := fun a a1 a2 a3 a4 a5 => mm_nc a1 (mm_nc a2 (mm_nc a3 (mm_nc a4 (mm_nc a5 mm_n0))))
        have hax : ∀ c, c < 4 → c < x → ∀ k, (k = 24 + 2 * c ∨ k = 25 + 2 * c) → ax k ≠ m5 ∧ ax k ≠ m6 ∧ ax k ≠ m7 ∧ ax k ≠ m8 := fun c _ hc k hk => ⟨fun e => absurd (hal.1 k 5 (by first | omega | (dsimp only; omega)) (by first | omega | (dsimp only; omega)) (e.trans (axr 5 (by omega) m5 (by rw [← hadb]; rfl)))) (by omega), fun e => absurd (hal.1 k 6 (by first | omega | (dsimp only; omega)) (by first | omega | (dsimp only; omega)) (e.trans (axr 6 (by omega) m6 (by rw [← hadb]; rfl)))) (by omega), fun e => absurd (hal.1 k 7 (by first | omega | (dsimp only; omega)) (by first | omega | (dsimp only; omega)) (e.trans (axr 7 (by omega) m7 (by rw [← hadb]; rfl)))) (by omega), fun e => absurd (hal.1 k 8 (by first | omega | (dsimp only; omega)) (by first | omega | (dsimp only; omega)) (e.trans (axr 8 (by omega) m8 (by rw [← hadb]; rfl)))) (by omega)⟩
        have hre := fun c hc => (⟨ff.at (hre c hc).1 (hL5 _ (hax c (by omega) hc _ (Or.inl rfl)).1 (hax c (by omega) hc _ (Or.inl rfl)).2.1 (hax c (by omega) hc _ (Or.inl rfl)).2.2.1 (hax c (by omega) hc _ (Or.inl rfl)).2.2.2 (hbo c hc).1), ff.at (hre c hc).2 (hL5 _ (hax c (by omega) hc _ (Or.inr rfl)).1 (hax c (by omega) hc _ (Or.inr rfl)).2.1 (hax c (by omega) hc _ (Or.inr rfl)).2.2.1 (hax c (by omega) hc _ (Or.inr rfl)).2.2.2 (hbo c hc).2)⟩ : _ ∧ _)
        obtain ⟨lm0, ⟨lf, lg, la1, lb1, lm1, lm2, lm3⟩, li, lm4⟩ := id hmc
        have hal2 := hal2.mv ff (mm_oc lm1 (mm_oc lm2 (mm_oc lm3 (mm_oc lm4 (mm_oc e1 mm_o0)))))
        have mbb : M81 b = none := by
          cases hz : M81 b with
          | none => rfl
          | some e => exact absurd (hFB1 b e hz (fun z => by simp only [List.mem_cons, List.not_mem_nil, or_false] at z; rcases z with z | z | z | z | z | z | z | z | z; exact n_rm_b z.symm; exact (mm_nenew km11 y1) z.symm; exact (mm_nenew km21 y1) z.symm; exact (mm_nenew km31 y1) z.symm; exact (mm_nenew km41 y1) z.symm; exact hwb 8 (by omega) z.symm; exact hwb 10 (by omega) z.symm; exact hwb 12 (by omega) z.symm; exact hwb 14 (by omega) z.symm)) (by rw [y1]; exact fun y => by cases y)
        have hFB := hFB.tr ff (mm_ic 1 rfl (mm_ic 2 rfl (mm_ic 3 rfl (mm_ic 4 rfl (mm_in mbb mm_i0)))))
        have n_q_m5 : dif q m5 := mm_neoo hq1 km1 (by decide)
        have n_q_m6 : dif q m6 := mm_neoi hq1 km2
        have n_q_m7 : dif q m7 := mm_neoi hq1 km3
        have n_q_m8 : dif q m8 := mm_neoi hq1 km4
        have n_q_b : dif q b := hqb
        have hX := ff.at hX (mm_nc n_X_m5 (mm_nc n_X_m6 (mm_nc n_X_m7 (mm_nc n_X_m8 (mm_nc n_X_b mm_n0)))))
        have hrm := ff.at hrm (mm_nc (Ne.symm n_m5_rm) (mm_nc (Ne.symm n_m6_rm) (mm_nc (Ne.symm n_m7_rm) (mm_nc (Ne.symm n_m8_rm) (mm_nc n_rm_b mm_n0)))))
        have hq1 := ff.at hq1 (mm_nc n_q_m5 (mm_nc n_q_m6 (mm_nc n_q_m7 (mm_nc n_q_m8 (mm_nc n_q_b mm_n0)))))
        have hb1 : M94 b = some (ia G 84 (sgn tn0 (s0 x))) := e1
        have hF := hF.tr ff (mm_in nn_m5 (mm_in nn_m6 (mm_in nn_m7 (mm_in nn_m8 (mm_in nn_b mm_i0)))))
        obtain ⟨hw0, ⟨tf, hw1, htf⟩, hst, hw2, hw3, hw4, hw5, hw6⟩ := id hwo
        obtain ⟨k95a, k95b⟩ := hst x (by omega)
        refine lv_aload_n hx hb dX8_init_170 rfl (lv_at hl 1 rfl) ?_
        refine mm_get S hC hR (C := RX7) (T := TX7) (N := 3) (ref := "ForkWatch$World") (v := .ref (wd 1)) 0 hw0 inRX7 rfl (by decide) (by decide +kernel) (fun _ h9 => h9) rfl dX8_init_171 ?_
        refine lv_iload_n hx hb dX8_init_174 rfl (lv_at hl 2 rfl) ?_
        refine mm_sald S hC hR hw1 (j := x) (v := .ref (wd (7 + 2 * x))) (by omega) (by omega) (by rw [htf _ (by omega)]; rfl) dX8_init_175 ?_
        refine lv_aload_n hx hb dX8_init_176 rfl (lv_at hl 0 rfl) ?_
        refine mm_get S hC hR (C := RX8) (T := TX8) (N := 14) (ref := "ForkWatch") (v := .ref rm) 4 hX inRX8 rfl (by decide) (by decide +kernel) (fun _ h9 => h9) rfl dX8_init_177 ?_
        refine lv_iload_n hx hb dX8_init_180 rfl (lv_at hl 2 rfl) ?_
        refine mm_sald S hC hR hrm (j := x) (v := .ref q) (by omega) (by omega) (by rw [va_up_self]; rfl) dX8_init_181 ?_
        refine mm_callv hA hR (va_runV (As := [.ref q]) (rest := []) S (c_X5_become l G M94 _ (wd (7 + 2 * x)) (wd (8 + 2 * x)) q b (st x) (sgn tn0 (s0 x)) k95a k95b hq1 hb1) (cwV 1 S.2.2.2.2 gX8_init_X5_become rfl rfl rfl (by decide +kernel) ⟨Nat.le_of_ble_eq_true rfl, Nat.le_of_ble_eq_true rfl⟩) (mm_preV hC hA hR _ k95a rfl) rfl rfl hl.1 rfl (lv_room (Nat.le_of_ble_eq_true rfl)) dX8_init_182 ⟨by show 35 + 2 * x + 1 + 1 + 0 + 0 ≤ 44; omega, by show 2107 + 85 * x + 1 + 84 + 0 + 0 ≤ 3447; omega⟩) (fun M97 H locs hp hR => ?_)
        obtain ⟨e1, ff⟩ := hp
        have hwo := hwo.bytes hwI (by omega) ff e1
        obtain ⟨km0, ⟨mf, mg, ma, mb1, km1, km2, km3⟩, mi, km4⟩ := id hmc
        have hmc := hmc.out ff (mm_nc (Ne.symm (nw_mc _ (by omega))) mm_n0) (mm_nc (Ne.symm (nw_m5 _ (by omega))) mm_n0) (mm_nc (Ne.symm (nw_m6 _ (by omega))) mm_n0) (mm_nc (Ne.symm (nw_m7 _ (by omega))) mm_n0) (mm_nc (Ne.symm (nw_m8 _ (by omega))) mm_n0)
        have hwx : ∀ c, c < x → ∀ k, (k = 24 + 2 * c ∨ k = 25 + 2 * c) → ax k ≠ wd (8 + 2 * x) := fun c hc k hk e => absurd (hal.1 k (100 + (8 + 2 * x)) (by first | omega | (dsimp only; omega)) (by first | omega | (dsimp only; omega)) (e.trans (axr (100 + (8 + 2 * x)) (by omega) _ (by rw [← hadb]; exact adW_w (by omega))))) (by omega)
        have hre := fun c hc => (⟨ff.at (hre c hc).1 (mm_nc (hwx c hc _ (Or.inl rfl)) mm_n0), ff.at (hre c hc).2 (mm_nc (hwx c hc _ (Or.inr rfl)) mm_n0)⟩ : _ ∧ _)
        have hal2 := hal2.mv ff (mm_oc e1 mm_o0)
        have hFB := hFB.tr ff (fun z hz => Or.inl (by rw [List.mem_singleton.mp hz]; rcases (show x = 0 ∨ x = 1 ∨ x = 2 ∨ x = 3 by omega) with e | e | e | e <;> subst e <;> simp))
        have hX := ff.at hX (mm_nc (Ne.symm (nw_X _ (by omega))) mm_n0)
        have hrm := ff.at hrm (mm_nc (Ne.symm (nw_rm _ (by omega))) mm_n0)
        have hq1 := ff.at hq1 (mm_nc (Ne.symm (hwq _ (by omega))) mm_n0)
        have hb1 := ff.at hb1 (mm_nc (Ne.symm (hwb _ (by omega))) mm_n0)
        have hF := hF.tr ff (mm_in (nn_wd _ (by omega)) mm_i0)
        refine lv_iinc (v := (nI (x + 1))) (lv' := [(2, .int (nI (x + 1))), (0, .ref X), (1, .ref (wd 0))]) hx hb dX8_init_185 hl (k := 2) rfl (by rw [show Int32.ofInt 1 = nI 1 from by decide]; exact nI_add _ _) (by decide) rfl (fun ls hl => ?_)
        refine lv_goto (tgt := 137) hx hb dX8_init_188 (by decide) ?_
        refine W.widen (k := 35 + 2 * (x + 1)) (n := 2107 + 85 * (x + 1)) (by show 35 + 2 * x + 1 + 1 + 0 + 0 ≤ 35 + 2 * (x + 1); omega) (by show 2107 + 85 * x + 1 + 84 + 0 + 0 ≤ 2107 + 85 * (x + 1); omega) ?_
        obtain ⟨ay, eay⟩ : ∃ z : Nat → Nat, z = upN (upN ax (24 + 2 * x) q) (25 + 2 * x) b := ⟨_, rfl⟩
        rw [← eay] at hal2
        have ayq : ay (24 + 2 * x) = q := by rw [eay]; unfold upN; rw [if_neg (by omega), if_pos rfl]
        have ayb : ay (25 + 2 * x) = b := by rw [eay]; unfold upN; rw [if_pos rfl]
        have ayo : ∀ r, r ≠ 24 + 2 * x → r ≠ 25 + 2 * x → ay r = ax r := fun r h1 h2 => by rw [eay]; unfold upN; rw [if_neg h2, if_neg h1]
        have al9 : al M (fun r => ((r < 18 ∧ r ≠ 11) ∨ (19 ≤ r ∧ r < 23) ∨ (100 ≤ r ∧ r < 115)) ∨ (24 ≤ r ∧ r < 24 + 2 * (x + 1))) ay M97 := ⟨fun r r2 h1 h2 e => hal2.1 r r2 (by first | omega | (dsimp only at h1 ⊢; omega)) (by first | omega | (dsimp only at h2 ⊢; omega)) e, fun r h1 => hal2.2.1 r (by first | omega | (dsimp only at h1 ⊢; omega)), fun r h1 h0 => hal2.2.2 r (by first | omega | (dsimp only at h1 ⊢; omega)) h0⟩
        exact ih (x + 1) ay _ _ _ H locs ls (by omega) (by omega) (fun r hr => (ayo r (by omega) (by omega)).trans (hag r hr)) hrm (fun c hc => by
          by_cases e : c = x
          · subst e
            rw [va_up_self, ayq]
          · rw [va_up_ne _ _ e, ayo _ (by omega) (by omega)]
            exact hrf c (by omega)) (fun c hc => by
          by_cases e : c = x
          · subst e
            rw [ayq, ayb]
            exact ⟨hq1, hb1⟩
          · rw [ayo _ (by omega) (by omega), ayo (25 + 2 * c) (by omega) (by omega)]
            exact hre c (by omega)) hwo (fun c hc => by
          by_cases e : c = x
          · subst e
            rw [updS_s, hst2 c (by omega)]
          · rw [updS_n e]
            exact hst1 c (by omega)) (fun c hc => by
          rw [updS_n (by omega)]
          exact hst2 c (by omega)) hmc hX hFB hF al9 hR (lv_sub hl [1, 2, 0] rfl)
  refine W.widen (k := 35 + 2 * 0) (n := 2107 + 85 * 0) (Nat.le_of_ble_eq_true rfl) (Nat.le_of_ble_eq_true rfl) ?_
  exact loop 5 0 ab (fun _ => none) s0 _ _ _ ls (by omega) (by omega) (fun r _ => rfl) hrm (fun c hc => absurd hc (Nat.not_lt_zero c)) (fun c hc => absurd hc (Nat.not_lt_zero c)) hwo (fun c hc => absurd hc (Nat.not_lt_zero c)) (fun c _ => rfl) ⟨hm0, ⟨_, _, _, _, hm5, hm6, hm7⟩, _, hm8⟩ hX mm_fr.rf hF ⟨fun r r2 h1 h2 e => hal.1 r r2 (by first | omega | (dsimp only at h1 ⊢; omega)) (by first | omega | (dsimp only at h2 ⊢; omega)) e, fun r h1 => hal.2.1 r (by first | omega | (dsimp only at h1 ⊢; omega)), fun r h1 h0 => hal.2.2 r (by first | omega | (dsimp only at h1 ⊢; omega)) h0⟩ hR (lv_sub hl [2, 1, 0] rfl)
