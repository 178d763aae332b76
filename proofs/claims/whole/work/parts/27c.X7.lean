def s0 (k : Nat) : Nat → Int32 := upd (fun _ => 0) 0 (nI k)
/-- a world with c statements made -/
def wiA (G : mm_G) (M : mm_M) (wd : Nat → Nat) (tf : Nat → Option Nat) (c : Nat) : Prop :=
  M (wd 0) = some (ob 8 [.ref (wd 1), .ref (wd 2), .ref (wd 5)]) ∧ M (wd 1) = some (sa G 4 tf) ∧ (∀ k, k < c → tf k = some (wd (7 + 2 * k))) ∧ (∀ k, k < c → M (wd (7 + 2 * k)) = some (ob 6 [.ref (wd (8 + 2 * k))]) ∧ M (wd (8 + 2 * k)) = some (ia G 84 (s0 k))) ∧
  M (wd 2) = some (ob 1 [.ref (wd 3), .ref (wd 4)]) ∧ M (wd 3) = some (ia G 192 (fun _ => 0)) ∧ M (wd 4) = some (ia G 16 (fun _ => 0)) ∧ M (wd 5) = some (ob 7 [.ref (wd 6)]) ∧ M (wd 6) = some (ia G 1024 (fun _ => 0))
theorem wi_some {G : mm_G} {M : mm_M} {wd : Nat → Nat} {tf : Nat → Option Nat} {c : Nat} (h : wiA G M wd tf c) : ∀ i, i < 7 + 2 * c → ∃ e, M (wd i) = some e := by
  intro i hi
  obtain ⟨h0, h1, -, hs, h2, h3, h4, h5, h6⟩ := h
  rcases (show i = 0 ∨ i = 1 ∨ i = 2 ∨ i = 3 ∨ i = 4 ∨ i = 5 ∨ i = 6 ∨ (∃ k, k < c ∧ i = 7 + 2 * k) ∨ ∃ k, k < c ∧ i = 8 + 2 * k from by
    by_cases h7 : i < 7
    · omega
    · by_cases h8 : (i - 7) % 2 = 0
      · exact Or.inr (Or.inr (Or.inr (Or.inr (Or.inr (Or.inr (Or.inr (Or.inl ⟨(i - 7) / 2, by omega, by omega⟩)))))))
      · exact Or.inr (Or.inr (Or.inr (Or.inr (Or.inr (Or.inr (Or.inr (Or.inr ⟨(i - 7) / 2, by omega, by omega⟩)))))))) with e | e | e | e | e | e | e | ⟨k, hk, e⟩ | ⟨k, hk, e⟩ <;> subst e
  · exact ⟨_, h0⟩
  · exact ⟨_, h1⟩
  · exact ⟨_, h2⟩
  · exact ⟨_, h3⟩
  · exact ⟨_, h4⟩
  · exact ⟨_, h5⟩
  · exact ⟨_, h6⟩
  · exact ⟨_, (hs k hk).1⟩
  · exact ⟨_, (hs k hk).2⟩
/-- the addresses, two more -/
def wd2 (wd : Nat → Nat) (c q b : Nat) : Nat → Nat := fun i => if i = 7 + 2 * c then q else if i = 8 + 2 * c then b else wd i
theorem wd2_q {wd : Nat → Nat} {c q b : Nat} : wd2 wd c q b (7 + 2 * c) = q := if_pos rfl
theorem wd2_b {wd : Nat → Nat} {c q b : Nat} : wd2 wd c q b (8 + 2 * c) = b := by unfold wd2; rw [if_neg (by omega), if_pos rfl]
theorem wd2_o {wd : Nat → Nat} {c q b i : Nat} (h : i < 7 + 2 * c) : wd2 wd c q b i = wd i := by unfold wd2; rw [if_neg (by omega), if_neg (by omega)]
theorem wiA.more {G : mm_G} {M M' : mm_M} {wd : Nat → Nat} {tf : Nat → Option Nat} {c q b : Nat} (h : wiA G M wd tf c) (hI : ∀ i j, i < 7 + 2 * c → j < 7 + 2 * c → wd i = wd j → i = j) (ff : mm_fr [wd 1] M M') (h1 : M' (wd 1) = some (sa G 4 (va_up tf c (some q)))) (hq : M' q = some (ob 6 [.ref b])) (hb : M' b = some (ia G 84 (s0 c))) : wiA G M' (wd2 wd c q b) (va_up tf c (some q)) (c + 1) := by
  have nn : ∀ i, i < 7 + 2 * c → i ≠ 1 → wd i ∉ [wd 1] := fun i hi hn => mm_nc (fun e => hn (hI i 1 hi (by omega) e)) mm_n0
  obtain ⟨g0, -, g2, hs, h2, h3, h4, h5, h6⟩ := h
  unfold wiA
  rw [wd2_o (i := 0) (by omega), wd2_o (i := 1) (by omega), wd2_o (i := 2) (by omega), wd2_o (i := 3) (by omega), wd2_o (i := 4) (by omega), wd2_o (i := 5) (by omega), wd2_o (i := 6) (by omega)]
  refine ⟨ff.at g0 (nn 0 (by omega) (by omega)), h1, fun k hk => ?_, fun k hk => ?_, ff.at h2 (nn 2 (by omega) (by omega)), ff.at h3 (nn 3 (by omega) (by omega)), ff.at h4 (nn 4 (by omega) (by omega)), ff.at h5 (nn 5 (by omega) (by omega)), ff.at h6 (nn 6 (by omega) (by omega))⟩
  · by_cases e : k = c
    · subst e
      rw [wd2_q, va_up_self]
    · rw [wd2_o (by omega), va_up_ne _ _ e]
      exact g2 k (by omega)
  · by_cases e : k = c
    · subst e
      rw [wd2_q, wd2_b]
      exact ⟨hq, hb⟩
    · rw [wd2_o (by omega), wd2_o (by omega)]
      exact ⟨ff.at (hs k (by omega)).1 (nn _ (by omega) (by omega)), ff.at (hs k (by omega)).2 (nn _ (by omega) (by omega))⟩
theorem wd2_inj {wd : Nat → Nat} {c q b : Nat} (hI : ∀ i j, i < 7 + 2 * c → j < 7 + 2 * c → wd i = wd j → i = j) (hq : ∀ i, i < 7 + 2 * c → wd i ≠ q) (hb : ∀ i, i < 7 + 2 * c → wd i ≠ b) (hqb : q ≠ b) : ∀ i j, i < 7 + 2 * (c + 1) → j < 7 + 2 * (c + 1) → wd2 wd c q b i = wd2 wd c q b j → i = j := by
  intro i j hi hj he
  rcases (show i < 7 + 2 * c ∨ i = 7 + 2 * c ∨ i = 8 + 2 * c by omega) with a | a | a <;> rcases (show j < 7 + 2 * c ∨ j = 7 + 2 * c ∨ j = 8 + 2 * c by omega) with z | z | z
  · rw [wd2_o a, wd2_o z] at he; exact hI i j a z he
  · subst z; rw [wd2_o a, wd2_q] at he; exact absurd he (hq i a)
  · subst z; rw [wd2_o a, wd2_b] at he; exact absurd he (hb i a)
  · subst a; rw [wd2_q, wd2_o z] at he; exact absurd he.symm (hq j z)
  · omega
  · subst a; subst z; rw [wd2_q, wd2_b] at he; exact absurd he hqb
  · subst a; rw [wd2_b, wd2_o z] at he; exact absurd he.symm (hb j z)
  · subst a; subst z; rw [wd2_b, wd2_q] at he; exact absurd he.symm hqb
  · omega

set_option maxHeartbeats 4000000 in
set_option maxRecDepth 100000 in
/-- World() -/
theorem c_X7_init (l : Launch) (G : mm_G) (M : mm_M) (sz : Nat) (W9 : Nat) (hw : M W9 = some (ob 8 [.null, .null, .null]))  : mm_v l yX7_init wsX7_init ({ frames := 2, cells := 14, slots := 1579, locals := 40 } : Room) G ([.ref W9] : List Value) M sz (fun M' => ∃ wd : Nat → Nat, wd 0 = W9 ∧ woI wd ∧ (∀ i, 1 ≤ i → i < 15 → M (wd i) = none) ∧ woA G M' wd s0 (fun _ => 0) (fun _ => 0) (fun _ => 0) ∧ mm_fr [W9] M M') := by
  refine mm_enter (cc := cX7_init) (maxL := 2) (ret := none) _ (by decide) rfl (Nat.le_of_ble_eq_true rfl) ?_
  intro p0 e0 s m0 be0 me0 c0 ls S hr hlocks hname hA hC hR hl
  have hx := S.1
  have hb := S.2.1
  have hl : lv_has ls 2 [(0, .ref W9)] := hl
  have hin : me0.name = "<init>" := hname
  have inRX0 : ∀ w ∈ wsX00, w ∈ wsX7_init := by decide +kernel
  have inRX5 : ∀ w ∈ wsX50, w ∈ wsX7_init := by decide +kernel
  have inRX6 : ∀ w ∈ wsX60, w ∈ wsX7_init := by decide +kernel
  have inRX7 : ∀ w ∈ wsX70, w ∈ wsX7_init := by decide +kernel
  have hF : mm_fr [W9] M M := mm_fr.rf
  refine lv_aload_n hx hb dX7_init_0 rfl (lv_at hl 0 rfl) ?_
  refine W.objInit hx hb S.2.2.2.1 (S.2.2.2.2 (.methodLink RX7 3 objectInit) (by decide +kernel)) (S.2.2.2.2 (.instanceMethod objectInit) (by decide +kernel)) (S.2.2.2.2 (.code objectInit ⟨#[0xb1]⟩ 1 none) (by decide +kernel)) rfl (by rw [S.2.2.1]; exact hl.1) rfl dX7_init_1 (Nat.le_of_ble_eq_true rfl) (Nat.le_of_ble_eq_true rfl) ?_
  refine W.eq (g2 := F0 m0 4 ls []) rfl ?_
  refine lv_aload_n hx hb dX7_init_4 rfl (lv_at hl 0 rfl) ?_
  refine lv_iconst (v := nI 4) hx hb dX7_init_5 (by decide) ?_
  refine mm_news S hC hA hR (by decide +kernel) (n := 4) (by omega) (Nat.le_of_ble_eq_true rfl) (Nat.le_of_ble_eq_true rfl) dX7_init_6 (fun td H M11 z11 htd f11 hR => ?_)
  have n_W9_td : W9 ≠ td := mm_nenew hw z11
  have nn_td : M td = none := hF.none z11 (mm_oc hw mm_o0)
  have hw := f11.at hw mm_n0
  have htd : M11 td = some (sa G 4 (fun _ => none)) := htd
  have hF := hF.tr f11 mm_i0
  refine mm_putF S hC hR (C := RX7) (T := TX7) (N := 3) (ref := "ForkWatch$World") 0 hw inRX7 rfl tyX7_ok nmX7 (by decide) (by decide +kernel) (fun _ h9 => h9) rfl hin rfl rfl rfl (Nat.le_of_ble_eq_true rfl) dX7_init_9 (fun H locs M1 g3 f2 hR => ?_)
  have htd := f2.at htd (mm_nc (Ne.symm n_W9_td) mm_n0)
  have hw : M1 W9 = some (ob 8 [.ref td, .null, .null]) := g3
  have hF := hF.tr f2 (mm_ic 0 rfl mm_i0)
  refine lv_aload_n hx hb dX7_init_12 rfl (lv_at hl 0 rfl) ?_
  refine mm_new (fs := [.null, .null]) S hC hA hR (C := RX0) (T := TX0) (N := 2) (ci := 1) inRX0 rfl tyX0_ok (by decide +kernel) (by decide +kernel) (by decide +kernel) (fun j hj => by rcases (show j = 0 ∨ j = 1 by omega) with rfl | rfl <;> rfl) (Nat.le_of_ble_eq_true rfl) (Nat.le_of_ble_eq_true rfl) dX7_init_13 (fun F H M4 z6 hf f5 hR => ?_)
  have n_W9_F : W9 ≠ F := mm_nenew hw z6
  have n_td_F : td ≠ F := mm_nenew htd z6
  have nn_F : M F = none := hF.none z6 (mm_oc hw mm_o0)
  have hw := f5.at hw mm_n0
  have htd := f5.at htd mm_n0
  have hf : M4 F = some (ob 1 [.null, .null]) := hf
  have hF := hF.tr f5 mm_i0
  refine lv_dup hx hb dX7_init_16 rfl ?_
  refine mm_callv hA hR (va_runIN (As := []) (rest := [.ref F, .ref W9]) S (c_X0_init l G M4 _ F hf) ⟨va_cnB 0 S.2.2.2.2 gX7_init_X0_init_n19 rfl rfl rfl (hC.2.2.2.2.2 (.methodLinkNest RX7 19 yX0_init "ForkWatch") (by decide +kernel)) (S.2.2.2.2 (.initialized RX0) (by decide +kernel)) (by decide +kernel) ⟨Nat.le_of_ble_eq_true rfl, Nat.le_of_ble_eq_true rfl⟩, rfl, S.2.2.2.2 (.instanceMethod yX0_init) (by decide +kernel)⟩ (mm_preS hC hA hR _) rfl rfl hl.1 rfl (lv_room (Nat.le_of_ble_eq_true rfl)) dX7_init_17 ⟨Nat.le_of_ble_eq_true rfl, Nat.le_of_ble_eq_true rfl⟩) (fun M8 H locs hp hR => ?_)
  obtain ⟨ca, la, y1, y2, ⟨e1, e2, e3⟩, ff⟩ := hp
  have n_W9_ca : W9 ≠ ca := mm_nenew hw y1
  have n_td_ca : td ≠ ca := mm_nenew htd y1
  have n_F_ca : F ≠ ca := mm_nenew hf y1
  have nn_ca : M ca = none := hF.none y1 (mm_oc hw mm_o0)
  have n_W9_la : W9 ≠ la := mm_nenew hw y2
  have n_td_la : td ≠ la := mm_nenew htd y2
  have n_F_la : F ≠ la := mm_nenew hf y2
  have nn_la : M la = none := hF.none y2 (mm_oc hw mm_o0)
  have n_ca_la : ca ≠ la := mm_nelen e2 e3 (by decide)
  have hw := ff.at hw (mm_nc n_W9_F mm_n0)
  have htd := ff.at htd (mm_nc n_td_F mm_n0)
  have hf : M8 F = some (ob 1 [.ref ca, .ref la]) := e1
  have hca : M8 ca = some (ia G 192 (fun _ => 0)) := e2
  have hla : M8 la = some (ia G 16 (fun _ => 0)) := e3
  have hF := hF.tr ff (mm_in nn_F mm_i0)
  refine mm_putF S hC hR (C := RX7) (T := TX7) (N := 3) (ref := "ForkWatch$World") 1 hw inRX7 rfl tyX7_ok nmX7 (by decide) (by decide +kernel) (fun _ h9 => h9) rfl hin rfl rfl rfl (Nat.le_of_ble_eq_true rfl) dX7_init_20 (fun H locs M9 g11 f10 hR => ?_)
  have htd := f10.at htd (mm_nc (Ne.symm n_W9_td) mm_n0)
  have hf := f10.at hf (mm_nc (Ne.symm n_W9_F) mm_n0)
  have hca := f10.at hca (mm_nc (Ne.symm n_W9_ca) mm_n0)
  have hla := f10.at hla (mm_nc (Ne.symm n_W9_la) mm_n0)
  have hw : M9 W9 = some (ob 8 [.ref td, .ref F, .null]) := g11
  have hF := hF.tr f10 (mm_ic 0 rfl mm_i0)
  refine lv_aload_n hx hb dX7_init_23 rfl (lv_at hl 0 rfl) ?_
  refine mm_new (fs := [.null]) S hC hA hR (C := RX6) (T := TX6) (N := 1) (ci := 7) inRX6 rfl tyX6_ok (by decide +kernel) (by decide +kernel) (by decide +kernel) (fun j hj => by rcases (show j = 0 by omega) with rfl <;> rfl) (Nat.le_of_ble_eq_true rfl) (Nat.le_of_ble_eq_true rfl) dX7_init_24 (fun T H M12 z14 ht f13 hR => ?_)
  have n_W9_T : W9 ≠ T := mm_nenew hw z14
  have n_td_T : td ≠ T := mm_nenew htd z14
  have n_F_T : F ≠ T := mm_nenew hf z14
  have n_ca_T : ca ≠ T := mm_nenew hca z14
  have n_la_T : la ≠ T := mm_nenew hla z14
  have nn_T : M T = none := hF.none z14 (mm_oc hw mm_o0)
  have hw := f13.at hw mm_n0
  have htd := f13.at htd mm_n0
  have hf := f13.at hf mm_n0
  have hca := f13.at hca mm_n0
  have hla := f13.at hla mm_n0
  have ht : M12 T = some (ob 7 [.null]) := ht
  have hF := hF.tr f13 mm_i0
  refine lv_dup hx hb dX7_init_27 rfl ?_
  refine mm_callv hA hR (va_runIN (As := []) (rest := [.ref T, .ref W9]) S (c_X6_init l G M12 _ T ht) ⟨va_cnB 0 S.2.2.2.2 gX7_init_X6_init_n26 rfl rfl rfl (hC.2.2.2.2.2 (.methodLinkNest RX7 26 yX6_init "ForkWatch") (by decide +kernel)) (S.2.2.2.2 (.initialized RX6) (by decide +kernel)) (by decide +kernel) ⟨Nat.le_of_ble_eq_true rfl, Nat.le_of_ble_eq_true rfl⟩, rfl, S.2.2.2.2 (.instanceMethod yX6_init) (by decide +kernel)⟩ (mm_preS hC hA hR _) rfl rfl hl.1 rfl (lv_room (Nat.le_of_ble_eq_true rfl)) dX7_init_28 ⟨Nat.le_of_ble_eq_true rfl, Nat.le_of_ble_eq_true rfl⟩) (fun M16 H locs hp hR => ?_)
  obtain ⟨nd, y3, ⟨e1, e2⟩, ff⟩ := hp
  have n_W9_nd : W9 ≠ nd := mm_nenew hw y3
  have n_td_nd : td ≠ nd := mm_nenew htd y3
  have n_F_nd : F ≠ nd := mm_nenew hf y3
  have n_ca_nd : ca ≠ nd := mm_nenew hca y3
  have n_la_nd : la ≠ nd := mm_nenew hla y3
  have n_T_nd : T ≠ nd := mm_nenew ht y3
  have nn_nd : M nd = none := hF.none y3 (mm_oc hw mm_o0)
  have hw := ff.at hw (mm_nc n_W9_T mm_n0)
  have htd := ff.at htd (mm_nc n_td_T mm_n0)
  have hf := ff.at hf (mm_nc n_F_T mm_n0)
  have hca := ff.at hca (mm_nc n_ca_T mm_n0)
  have hla := ff.at hla (mm_nc n_la_T mm_n0)
  have ht : M16 T = some (ob 7 [.ref nd]) := e1
  have hnd : M16 nd = some (ia G 1024 (fun _ => 0)) := e2
  have hF := hF.tr ff (mm_in nn_T mm_i0)
  refine mm_putF S hC hR (C := RX7) (T := TX7) (N := 3) (ref := "ForkWatch$World") 2 hw inRX7 rfl tyX7_ok nmX7 (by decide) (by decide +kernel) (fun _ h9 => h9) rfl hin rfl rfl rfl (Nat.le_of_ble_eq_true rfl) dX7_init_31 (fun H locs M17 g19 f18 hR => ?_)
  have htd := f18.at htd (mm_nc (Ne.symm n_W9_td) mm_n0)
  have hf := f18.at hf (mm_nc (Ne.symm n_W9_F) mm_n0)
  have hca := f18.at hca (mm_nc (Ne.symm n_W9_ca) mm_n0)
  have hla := f18.at hla (mm_nc (Ne.symm n_W9_la) mm_n0)
  have ht := f18.at ht (mm_nc (Ne.symm n_W9_T) mm_n0)
  have hnd := f18.at hnd (mm_nc (Ne.symm n_W9_nd) mm_n0)
  have hw : M17 W9 = some (ob 8 [.ref td, .ref F, .ref T]) := g19
  have hF := hF.tr f18 (mm_ic 0 rfl mm_i0)
  refine lv_iconst (v := nI 0) hx hb dX7_init_34 (by decide) ?_
  refine lv_istore_n (lv' := [(1, .int (nI 0)), (0, .ref W9)]) hx hb dX7_init_35 rfl hl (by decide) rfl (fun ls hl => ?_)
  have loop : ∀ (n x : Nat) (wd : Nat → Nat) (tf : Nat → Option Nat) (M1 : mm_M) (H : Heap) (locs : List Loc) (ls : Array Slot), 4 < x + n → x ≤ 4 → wd 0 = W9 → (∀ i j, i < 7 + 2 * x → j < 7 + 2 * x → wd i = wd j → i = j) → (∀ i, 1 ≤ i → i < 7 + 2 * x → M (wd i) = none) → wiA G M1 wd tf x → mm_fr [W9] M M1 → mm_R G s (mm_A M sz) M1 H locs → lv_has ls 2 [(0, .ref W9), (1, .int (nI x))] → W p0 l e0 ({ frames := 2, cells := 14, slots := 1579, locals := 40 } : Room) s m0 ([.ref W9] : List Value).toArray be0 me0 c0 H locs (6 + 2 * x) (1239 + 85 * x) (MQ be0 (va_Qv (fun M' => ∃ wd : Nat → Nat, wd 0 = W9 ∧ woI wd ∧ (∀ i, 1 ≤ i → i < 15 → M (wd i) = none) ∧ woA G M' wd s0 (fun _ => 0) (fun _ => 0) (fun _ => 0) ∧ mm_fr [W9] M M') (fun M' t => mm_H G (mm_A M sz) M' t.heap) (mm_A M sz)) ([.ref W9] : List Value).toArray s 14 1579 (mm_A M sz)) (F0 m0 36 ls []) := by
    intro n
    induction n with
    | zero =>
      intro x wd tf M1 H locs ls hn hx4 hW hI hnw hwi hF hR hl
      omega
    | succ n ih =>
      intro x wd tf M1 H locs ls hn hx4 hW hI hnw hwi hF hR hl
      obtain ⟨hw0, hw1, htf, hst, hw2, hw3, hw4, hw5, hw6⟩ := id hwi
      rw [hW] at hw0
      refine lv_iload_n hx hb dX7_init_36 rfl (lv_at hl 1 rfl) ?_
      refine lv_iconst (v := nI 4) hx hb dX7_init_37 (by decide) ?_
      refine lv_icmp_ge (tgt := 61) hx hb dX7_init_38 (by decide) (fun c20 => ?_) (fun c20 => ?_)
      · have c20 : 4 ≤ x := (nI_leI (a := 4) (b := x) (by omega) (by omega)).mp c20
        have e4 : x = 4 := by omega
        subst e4
        refine W.widen (k := 14) (n := 1579) (by omega) (by omega) ?_
        exact mm_vret S hr hlocks hR ⟨wd, hW, hI, hnw, ⟨hwi.1, ⟨tf, hw1, htf⟩, hst, hw2, hw3, hw4, hw5, hw6⟩, hF⟩ dX7_init_61
      · have c20 : ¬ (4 ≤ x) := fun z => c20 ((nI_leI (a := 4) (b := x) (by omega) (by omega)).mpr z)
        refine lv_aload_n hx hb dX7_init_41 rfl (lv_at hl 0 rfl) ?_
        refine mm_get S hC hR (C := RX7) (T := TX7) (N := 3) (ref := "ForkWatch$World") (v := .ref (wd 1)) 0 hw0 inRX7 rfl (by decide) (by decide +kernel) (fun _ h9 => h9) rfl dX7_init_42 ?_
        refine lv_iload_n hx hb dX7_init_45 rfl (lv_at hl 1 rfl) ?_
        refine mm_new (fs := [.null]) S hC hA hR (C := RX5) (T := TX5) (N := 1) (ci := 6) inRX5 rfl tyX5_ok (by decide +kernel) (by decide +kernel) (by decide +kernel) (fun j hj => by rcases (show j = 0 by omega) with rfl <;> rfl) (by show 6 + 2 * x + 1 ≤ 14; omega) (by show 1239 + 85 * x + 1 ≤ 1579; omega) dX7_init_46 (fun q H M21 z23 hq1 f22 hR => ?_)
        have n_W9_q : W9 ≠ q := mm_nenew hw0 z23
        have n_wd_1_q : wd 1 ≠ q := mm_nenew hw1 z23
        have nn_q : M q = none := hF.none z23 (mm_oc hw0 mm_o0)
        have hw0 := f22.at hw0 mm_n0
        have hw1 := f22.at hw1 mm_n0
        have hq1 : M21 q = some (ob 6 [.null]) := hq1
        have hF := hF.tr f22 mm_i0
        have hwi2 : wiA G M21 wd tf x := ⟨f22.at hwi.1 mm_n0, hw1, htf, fun k hk => ⟨f22.at (hst k hk).1 mm_n0, f22.at (hst k hk).2 mm_n0⟩, f22.at hw2 mm_n0, f22.at hw3 mm_n0, f22.at hw4 mm_n0, f22.at hw5 mm_n0, f22.at hw6 mm_n0⟩
        have hqn : ∀ i, i < 7 + 2 * x → wd i ≠ q := fun i hi => by obtain ⟨e, he⟩ := wi_some hwi i hi; exact mm_nenew he z23
        refine lv_dup hx hb dX7_init_49 rfl ?_
        refine lv_iload_n hx hb dX7_init_50 rfl (lv_at hl 1 rfl) ?_
        refine mm_callv hA hR (va_runI (As := [.int (nI x)]) (rest := [.ref q, .int (nI x), .ref (wd 1)]) S (c_X5_init l G M21 _ q (nI x) hq1) (cwI 1 S.2.2.2.2 gX7_init_X5_init rfl rfl rfl (S.2.2.2.2 (.initialized RX5) (by decide +kernel)) (S.2.2.2.2 (.methodLink RX7 31 yX5_init) (by decide +kernel)) (S.2.2.2.2 (.instanceMethod yX5_init) (by decide +kernel)) rfl (by decide +kernel) ⟨Nat.le_of_ble_eq_true rfl, Nat.le_of_ble_eq_true rfl⟩) (mm_preS hC hA hR _) rfl rfl hl.1 rfl (lv_room (Nat.le_of_ble_eq_true rfl)) dX7_init_51 ⟨by show 6 + 2 * x + 1 + 1 ≤ 14; omega, by show 1239 + 85 * x + 1 + 84 ≤ 1579; omega⟩) (fun M25 H locs hp hR => ?_)
        obtain ⟨b, y1, e1, e2, ff⟩ := hp
        have hbn : ∀ i, i < 7 + 2 * x → wd i ≠ b := fun i hi => by obtain ⟨e, he⟩ := wi_some hwi2 i hi; exact mm_nenew he y1
        have hqb : q ≠ b := mm_nenew hq1 y1
        have nn_b : M b = none := hF.none y1 (mm_oc hw0 mm_o0)
        have hwi3 : wiA G M25 wd tf x := ⟨ff.at hwi2.1 (mm_nc (hqn 0 (by omega)) mm_n0), ff.at hwi2.2.1 (mm_nc (hqn 1 (by omega)) mm_n0), htf, fun k hk => ⟨ff.at (hwi2.2.2.2.1 k hk).1 (mm_nc (hqn _ (by omega)) mm_n0), ff.at (hwi2.2.2.2.1 k hk).2 (mm_nc (hqn _ (by omega)) mm_n0)⟩, ff.at hwi2.2.2.2.2.1 (mm_nc (hqn 2 (by omega)) mm_n0), ff.at hwi2.2.2.2.2.2.1 (mm_nc (hqn 3 (by omega)) mm_n0), ff.at hwi2.2.2.2.2.2.2.1 (mm_nc (hqn 4 (by omega)) mm_n0), ff.at hwi2.2.2.2.2.2.2.2.1 (mm_nc (hqn 5 (by omega)) mm_n0), ff.at hwi2.2.2.2.2.2.2.2.2 (mm_nc (hqn 6 (by omega)) mm_n0)⟩
        have hw0 := ff.at hw0 (mm_nc n_W9_q mm_n0)
        have hw1 := ff.at hw1 (mm_nc (hqn 1 (by omega)) mm_n0)
        have hq1 : M25 q = some (ob 6 [.ref b]) := e1
        have hb1 : M25 b = some (ia G 84 (s0 x)) := e2
        have hF := hF.tr ff (mm_in nn_q mm_i0)
        refine mm_sast S hC hR hw1 hq1 (j := x) (by omega) (by omega) dX7_init_54 (fun H locs M26 g28 f27 hR => ?_)
        have hw0 := f27.at hw0 (mm_nc (mm_neoi hw0 hw1) mm_n0)
        have hq1 := f27.at hq1 (mm_nc (Ne.symm (hqn 1 (by omega))) mm_n0)
        have hb1 := f27.at hb1 (mm_nc (Ne.symm (hbn 1 (by omega))) mm_n0)
        have hw1 : M26 (wd 1) = some (sa G 4 (va_up tf x (some q))) := g28
        have hF := hF.tr f27 (mm_in (hnw 1 (by omega) (by omega)) mm_i0)
        have hwi4 := hwi3.more hI f27 hw1 hq1 hb1
        refine lv_iinc (v := (nI (x + 1))) (lv' := [(1, .int (nI (x + 1))), (0, .ref W9)]) hx hb dX7_init_55 hl (k := 1) rfl (by rw [show Int32.ofInt 1 = nI 1 from by decide]; exact nI_add _ _) (by decide) rfl (fun ls hl => ?_)
        refine lv_goto (tgt := 36) hx hb dX7_init_58 (by decide) ?_
        refine W.widen (k := 6 + 2 * (x + 1)) (n := 1239 + 85 * (x + 1)) (by show 6 + 2 * x + 1 + 1 ≤ 6 + 2 * (x + 1); omega) (by show 1239 + 85 * x + 1 + 84 ≤ 1239 + 85 * (x + 1); omega) ?_
        exact ih (x + 1) _ _ _ H locs ls (by omega) (by omega) (by rw [wd2_o (by omega)]; exact hW) (wd2_inj hI hqn hbn hqb) (fun i h1 h2 => by by_cases a : i < 7 + 2 * x; (rw [wd2_o a]; exact hnw i h1 a); by_cases e : i = 7 + 2 * x; (rw [e, wd2_q]; exact nn_q); (rw [show i = 8 + 2 * x by omega, wd2_b]; exact nn_b)) hwi4 hF hR (lv_sub hl [1, 0] rfl)
  obtain ⟨wd, hwd⟩ : ∃ z : Nat → Nat, z = fun i => match i with | 0 => W9 | 1 => td | 2 => F | 3 => ca | 4 => la | 5 => T | _ => nd := ⟨_, rfl⟩
  have w0 : wd 0 = W9 := congrFun hwd 0
  have w1 : wd 1 = td := congrFun hwd 1
  have w2 : wd 2 = F := congrFun hwd 2
  have w3 : wd 3 = ca := congrFun hwd 3
  have w4 : wd 4 = la := congrFun hwd 4
  have w5 : wd 5 = T := congrFun hwd 5
  have w6 : wd 6 = nd := congrFun hwd 6
  refine W.widen (k := 6 + 2 * 0) (n := 1239 + 85 * 0) (Nat.le_of_ble_eq_true rfl) (Nat.le_of_ble_eq_true rfl) ?_
  have inj : ∀ i j, i < 7 + 2 * 0 → j < 7 + 2 * 0 → wd i = wd j → i = j := by
    intro i j hi hj he
    rcases (show i = 0 ∨ i = 1 ∨ i = 2 ∨ i = 3 ∨ i = 4 ∨ i = 5 ∨ i = 6 by omega) with a | a | a | a | a | a | a <;> rcases (show j = 0 ∨ j = 1 ∨ j = 2 ∨ j = 3 ∨ j = 4 ∨ j = 5 ∨ j = 6 by omega) with b | b | b | b | b | b | b <;> subst a <;> subst b <;> first | rfl | (exfalso; simp only [w0, w1, w2, w3, w4, w5, w6] at he; first | exact absurd he n_W9_td | exact absurd he (Ne.symm n_W9_td) | exact absurd he n_W9_F | exact absurd he (Ne.symm n_W9_F) | exact absurd he n_W9_ca | exact absurd he (Ne.symm n_W9_ca) | exact absurd he n_W9_la | exact absurd he (Ne.symm n_W9_la) | exact absurd he n_W9_T | exact absurd he (Ne.symm n_W9_T) | exact absurd he n_W9_nd | exact absurd he (Ne.symm n_W9_nd) | exact absurd he n_td_F | exact absurd he (Ne.symm n_td_F) | exact absurd he n_td_ca | exact absurd he (Ne.symm n_td_ca) | exact absurd he n_td_la | exact absurd he (Ne.symm n_td_la) | exact absurd he n_td_T | exact absurd he (Ne.symm n_td_T) | exact absurd he n_td_nd | exact absurd he (Ne.symm n_td_nd) | exact absurd he n_F_ca | exact absurd he (Ne.symm n_F_ca) | exact absurd he n_F_la | exact absurd he (Ne.symm n_F_la) | exact absurd he n_F_T | exact absurd he (Ne.symm n_F_T) | exact absurd he n_F_nd | exact absurd he (Ne.symm n_F_nd) | exact absurd he n_ca_la | exact absurd he (Ne.symm n_ca_la) | exact absurd he n_ca_T | exact absurd he (Ne.symm n_ca_T) | exact absurd he n_ca_nd | exact absurd he (Ne.symm n_ca_nd) | exact absurd he n_la_T | exact absurd he (Ne.symm n_la_T) | exact absurd he n_la_nd | exact absurd he (Ne.symm n_la_nd) | exact absurd he n_T_nd | exact absurd he (Ne.symm n_T_nd))
  exact loop 5 0 wd (fun _ => none) _ _ _ ls (by omega) (by omega) w0 inj (fun i h1 h2 => by rcases (show i = 1 ∨ i = 2 ∨ i = 3 ∨ i = 4 ∨ i = 5 ∨ i = 6 by omega) with e | e | e | e | e | e <;> subst e <;> simp only [w1, w2, w3, w4, w5, w6] <;> assumption) ⟨by rw [w0, w1, w2, w5]; exact hw, by rw [w1]; exact htd, fun k hk => absurd hk (Nat.not_lt_zero k), fun k hk => absurd hk (Nat.not_lt_zero k), by rw [w2, w3, w4]; exact hf, by rw [w3]; exact hca, by rw [w4]; exact hla, by rw [w5, w6]; exact ht, by rw [w6]; exact hnd⟩ hF hR (lv_sub hl [1, 0] rfl)
