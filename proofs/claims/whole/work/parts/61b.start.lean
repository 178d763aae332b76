/-! ===== the start of the law ===== -/
theorem lt_mem {i : Nat} {w : Cond} (h : lw_tbl[i]? = some w) : w ∈ lw_tbl := List.mem_of_getElem? h
theorem lc_1 : Cond.laysStatic RX4 "START" "[I" ∈ lw_tbl := lt_mem (i := 208) (by decide +kernel)
theorem lc_2 : Cond.laysStatic RX4 "ROUND" "[I" ∈ lw_tbl := lt_mem (i := 225) (by decide +kernel)
theorem lc_3 : Cond.laysStatic RJx4a65c "DEFAULTCAPACITY_EMPTY_ELEMENTDATA" "[Ljava/lang/Object;" ∈ lw_tbl := lt_mem (i := 102) (by decide +kernel)
theorem lc_4 : Cond.initialized RX4 ∈ lw_tbl := lt_mem (i := 28) (by decide +kernel)
theorem lc_5 : Cond.initialized RJx4a65c ∈ lw_tbl := lt_mem (i := 32) (by decide +kernel)
theorem lc_6 : Cond.arrayClass .int ∈ lw_tbl := lt_mem (i := 73) (by decide +kernel)
theorem lc_7 : Cond.arrayOver (.object "ForkWatch$Statement") ∈ lw_tbl := lt_mem (i := 116) (by decide +kernel)
theorem lc_8 : Cond.arrayOver (.object "java/lang/Object") ∈ lw_tbl := lt_mem (i := 315) (by decide +kernel)
theorem lc_9 : Cond.castable "ForkWatch$World" "java/lang/Object" ∈ lw_tbl := lt_mem (i := 895) (by decide +kernel)
theorem lc_10 : Cond.castable "ForkWatch$Operation" "java/lang/Object" ∈ lw_tbl := lt_mem (i := 899) (by decide +kernel)
theorem lc_11 : Cond.castable "[I" "java/lang/Cloneable" ∈ lw_tbl := lt_mem (i := 466) (by decide +kernel)
theorem lc_12 : Cond.declares ⟨"java/lang/Object", "getClass", "()Ljava/lang/Class;"⟩ ∈ lw_tbl := lt_mem (i := 889) (by decide +kernel)
theorem lc_n : ∀ w ∈ mm_nw, w ∈ lw_tbl := lp_mem _ [56, 76, 81, 119, 127, 161, 164, 430, 605] (by decide +kernel)
theorem li_0 : Cond.instantiable RJx4a65c 3 ∈ lw_tbl := lt_mem (i := 90) (by decide +kernel)
theorem li_1 : Cond.instantiable RX0 2 ∈ lw_tbl := lt_mem (i := 126) (by decide +kernel)
theorem li_2 : Cond.instantiable RX1 3 ∈ lw_tbl := lt_mem (i := 118) (by decide +kernel)
theorem li_3 : Cond.instantiable RX2 2 ∈ lw_tbl := lt_mem (i := 75) (by decide +kernel)
theorem li_4 : Cond.instantiable RX3 5 ∈ lw_tbl := lt_mem (i := 457) (by decide +kernel)
theorem li_5 : Cond.instantiable RX4 4 ∈ lw_tbl := lt_mem (i := 55) (by decide +kernel)
theorem li_6 : Cond.instantiable RX5 1 ∈ lw_tbl := lt_mem (i := 172) (by decide +kernel)
theorem li_7 : Cond.instantiable RX6 1 ∈ lw_tbl := lt_mem (i := 163) (by decide +kernel)
theorem li_8 : Cond.instantiable RX7 3 ∈ lw_tbl := lt_mem (i := 154) (by decide +kernel)
theorem li_9 : Cond.instantiable RX8 14 ∈ lw_tbl := lt_mem (i := 47) (by decide +kernel)
theorem li_10 : Cond.instantiable RX9 23 ∈ lw_tbl := lt_mem (i := 615) (by decide +kernel)
def tS : Term := .static "ForkWatch$Sha256" "START" "[I"
def tR : Term := .static "ForkWatch$Sha256" "ROUND" "[I"
def tE : Term := .static "java/util/ArrayList" "DEFAULTCAPACITY_EMPTY_ELEMENTDATA" "[Ljava/lang/Object;"
def lfl : List Cond := flatC (Jvm.Cond.and given_1 narrow_1)
theorem ls_0 : Cond.arrayOf tS .int ∈ lfl ∧ Cond.eq (.length tS) (.int (Int32.ofNat 8)) ∈ lfl := by decide +kernel
theorem ls_1 : ∀ j, j < 8 → Cond.eq (.elem tS (.int (Int32.ofNat j))) (.int (k_begin j)) ∈ lfl := by decide +kernel
theorem ls_2 : Cond.arrayOf tR .int ∈ lfl ∧ Cond.eq (.length tR) (.int (Int32.ofNat 64)) ∈ lfl := by decide +kernel
theorem ls_3 : ∀ j, j < 64 → Cond.eq (.elem tR (.int (Int32.ofNat j))) (.int (k_round j)) ∈ lfl := by decide +kernel
theorem ls_4 : Cond.arrayOf tE (.object "java/lang/Object") ∈ lfl ∧ Cond.eq (.length tE) (.int (Int32.ofNat 0)) ∈ lfl := by decide +kernel
theorem ls_5 : Cond.isRef (.mirror "[Ljava/lang/Object;") ∈ lfl := by decide +kernel
set_option maxHeartbeats 4000000 in
theorem law_C {p : Program} {s : State} {m : MethodId} {meth : Method} {c : Code} {b L : Nat} {xs : Nat → Int32} (C0 : lw_At p s m meth c b L xs) : ∃ G : mm_G, mm_C G (fun q : Nat => s.heap.size ≤ q) s := by
  obtain ⟨hx, hb, hr, hml, hown, hts, hX, hbl, hlocks, hgv⟩ := id C0
  have hA : ∀ a : Nat, a < s.heap.size → ¬ (fun q : Nat => s.heap.size ≤ q) a := fun a h => Nat.not_le.mpr h
  have hfl : ∀ w ∈ lfl, w.before #[Value.ref b] s = true := flat_of_before _ hgv
  obtain ⟨c0, i0, k0⟩ := u_known (C := RJx4a65c) (T := TJx4a65c) (N := 3) (n := 3) hts inJx4a65c (hts _ li_0)
  obtain ⟨c1, i1, k1⟩ := u_known (C := RX0) (T := TX0) (N := 2) (n := 2) hts inX0 (hts _ li_1)
  obtain ⟨c2, i2, k2⟩ := u_known (C := RX1) (T := TX1) (N := 3) (n := 3) hts inX1 (hts _ li_2)
  obtain ⟨c3, i3, k3⟩ := u_known (C := RX2) (T := TX2) (N := 2) (n := 2) hts inX2 (hts _ li_3)
  obtain ⟨c4, i4, k4⟩ := u_known (C := RX3) (T := TX3) (N := 5) (n := 5) hts inX3 (hts _ li_4)
  obtain ⟨c5, i5, k5⟩ := u_known (C := RX4) (T := TX4) (N := 4) (n := 4) hts inX4 (hts _ li_5)
  obtain ⟨c6, i6, k6⟩ := u_known (C := RX5) (T := TX5) (N := 1) (n := 1) hts inX5 (hts _ li_6)
  obtain ⟨c7, i7, k7⟩ := u_known (C := RX6) (T := TX6) (N := 1) (n := 1) hts inX6 (hts _ li_7)
  obtain ⟨c8, i8, k8⟩ := u_known (C := RX7) (T := TX7) (N := 3) (n := 3) hts inX7 (hts _ li_8)
  obtain ⟨c9, i9, k9⟩ := u_known (C := RX8) (T := TX8) (N := 14) (n := 14) hts inX8 (hts _ li_9)
  obtain ⟨c10, i10, k10⟩ := u_known (C := RX9) (T := TX9) (N := 23) (n := 23) hts inX9 (hts _ li_10)
  obtain ⟨cI, kI, compI, f1, f2, f3⟩ := Cond.arrayClass_spec (hts _ lc_6)
  obtain ⟨compS, cS, kS, g1, g2, g3, g4, g5⟩ := Cond.arrayOver_spec (hts _ lc_7)
  obtain ⟨compO, cO, kO, o1, o2, o3, o4, o5⟩ := Cond.arrayOver_spec (hts _ lc_8)
  obtain ⟨aS, eS, tabS⟩ := va_Tof (N := 8) (f := fun j => .int (k_begin j)) (A := fun q : Nat => s.heap.size ≤ q) (by decide) (hfl _ ls_0.1) (va_eqt (hfl _ ls_0.2)) (fun j hj => va_eqt (hfl _ (ls_1 j hj))) hA
  obtain ⟨aR, eR, tabR⟩ := va_Tof (N := 64) (f := fun j => .int (k_round j)) (A := fun q : Nat => s.heap.size ≤ q) (by decide) (hfl _ ls_2.1) (va_eqt (hfl _ ls_2.2)) (fun j hj => va_eqt (hfl _ (ls_3 j hj))) hA
  obtain ⟨aE, eE, tabE⟩ := va_Tof (N := 0) (f := fun _ => .null) (A := fun q : Nat => s.heap.size ≤ q) (by decide) (hfl _ ls_4.1) (va_eqt (hfl _ ls_4.2)) (fun j hj => absurd hj (Nat.not_lt_zero j)) hA
  obtain ⟨mi, hmi⟩ := va_Mi.of (hfl _ ls_5)
  refine ⟨((fun k => if k = 0 then c0 else if k = 1 then c1 else if k = 2 then c2 else if k = 3 then c3 else if k = 4 then c4 else if k = 5 then c5 else if k = 6 then c6 else if k = 7 then c7 else if k = 8 then c8 else if k = 9 then c9 else c10, fun k => if k = 0 then i0 else if k = 1 then i1 else if k = 2 then i2 else if k = 3 then i3 else if k = 4 then i4 else if k = 5 then i5 else if k = 6 then i6 else if k = 7 then i7 else if k = 8 then i8 else if k = 9 then i9 else i10), (cI, cS, cO), (aS, aR, aE, mi)), ⟨fun k q hq => ?_, fun k q hq => ?_⟩, ⟨va_Zref (hts _ lc_1) (hts _ lc_4) eS hA, tabS⟩, ⟨va_Zref (hts _ lc_2) (hts _ lc_4) eR hA, tabR⟩, ⟨va_Zref (hts _ lc_3) (hts _ lc_5) eE hA, tabE⟩, ⟨hmi, ⟨va_AO.of (hts _ lc_7), va_AO.of (hts _ lc_8)⟩, ⟨va_Nw.of rfl (hts _ lc_9), va_Nw.of rfl (hts _ lc_10)⟩, va_Dc.of (hts _ lc_12), va_Nw.of rfl (hts _ lc_11)⟩, fun w hw => ?_⟩
  · match k, hq with
    | 0, hq => cases hq; exact k0
    | 1, hq => cases hq; exact k1
    | 2, hq => cases hq; exact k2
    | 3, hq => cases hq; exact k3
    | 4, hq => cases hq; exact k4
    | 5, hq => cases hq; exact k5
    | 6, hq => cases hq; exact k6
    | 7, hq => cases hq; exact k7
    | 8, hq => cases hq; exact k8
    | 9, hq => cases hq; exact k9
    | 10, hq => cases hq; exact k10
    | k + 11, hq => cases hq
  · match k, hq with
    | 0, hq => cases hq; exact ⟨fun n z => ⟨fun k h => (by cases h), kI, f2, compI, f3⟩, f1⟩
    | 1, hq => cases hq; exact ⟨fun n z => ⟨fun k h => (by cases h), kS, g3, compS, g4⟩, kS, compS, g3, g4, g1, g5⟩
    | 2, hq => cases hq; exact ⟨fun n z => ⟨fun k h => (by cases h), kO, o3, compO, o4⟩, kO, compO, o3, o4, o1, o5⟩
    | k + 3, hq => cases hq
  · have h := hts w (lc_n w hw)
    simp only [mm_nw, List.mem_cons, List.not_mem_nil, or_false] at hw
    rcases hw with rfl | rfl | rfl | rfl | rfl | rfl | rfl | rfl | rfl <;> exact va_Nw.of rfl h
