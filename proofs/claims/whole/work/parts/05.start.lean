section MMS
variable {p : Program} {l : Launch} {e : Env} {R : Room} {s : State} {m : MethodId} {args : Array Value} {below : List Frame} {meth : Method} {c : Code} {H : Heap} {locs : List Loc} {cells slots : Nat} {Q : State → Prop}
variable {cc : ByteArray} {pc nL : Nat} {ls : Array Slot} {rest : List Value} {G : mm_G} {A : Nat → Prop} {M : mm_M} {Ts : List Cond} {own : String}
/-- the eight numbers that a digest begins with, out of their table -/
theorem mm_copyS (S : CallFix p m c cc nL s args Ts own) (hC : mm_C G A s) (hR : mm_R G s A M H locs) (hls : ls.size = nL) {a index : Nat} {g : Nat → Int32} (ha : M a = some (ia G 8 g)) (hl : Cond.methodLink own index arraycopyName ∈ Ts) (hnat : Cond.native arraycopyName ∈ Ts) (hstat : Cond.static arraycopyName ∈ Ts) (hini : Cond.initialized "java/lang/System" ∈ Ts)
    (hframes : 1 ≤ R.frames) (hlocals : (rest.map fun v => v.category).sum + (nativeFrameWords "java/lang/System" "arraycopy" 5 + 11) ≤ R.locals) (hdg : decode cc pc = .ok (.invokestatic index, 3))
    (kk : ∀ (H1 : Heap) (locs1 : List Loc) (M1 : mm_M), M1 a = some (ia G 8 (va_cpy k_begin g 0 0 8)) → mm_fr [a] M M1 → mm_R G s A M1 H1 locs1 → W p l e R s m args below meth c H1 locs1 cells slots Q (F0 m (pc + 3) ls rest)) : W p l e R s m args below meth c H locs cells slots Q (F0 m pc ls (.int (nI 8) :: .int (nI 0) :: .ref a :: .int (nI 0) :: .ref G.2.2.1 :: rest)) := by
  obtain ⟨⟨ws, hP, hD, hw⟩, hS⟩ := hR
  obtain ⟨i, hi⟩ := List.getElem?_of_mem ((hw _ _).mp ha)
  obtain ⟨tab, t1, ⟨t2, kS, hkS, cmS, hkkS⟩, t3, t4, t5, t6, t7⟩ := hC.2.1.2
  have c0 : H[G.2.2.1]? = some tab := by rw [hS.2.1 _ (Array.getElem?_eq_some_iff.mp t1).1 t7]; exact t1
  have c1 : H[a]? = some (vp_cell G.2.1.1 (8, .inl g)) := hP i _ hi
  obtain ⟨-, kD, hkD, cmD, hkkD⟩ := (hC.1.2 0 _ rfl).1 8 (fun j => .int (g j))
  have e0 : (nI 0).toNatClampNeg = 0 := by decide
  have e8 : (nI 8).toNatClampNeg = 8 := by decide
  have i0 : (nI 0).toInt = 0 := by decide
  have i8 : (nI 8).toInt = 8 := by decide
  have el : ∀ j, j < 8 → tab.slots.getD j .null = .int (k_begin j) := fun j hj => by rw [Array.getD_eq_getD_getElem?, t6 j hj]; rfl
  intro T hT X
  obtain ⟨vm', X', step⟩ := X.arraycopy S.1 S.2.2.2.1 (S.2.2.2.2 _ hl) (S.2.2.2.2 _ hnat) (S.2.2.2.2 _ hstat) (S.2.2.2.2 _ hini) (cs := tab) (cd := vp_cell G.2.1.1 (8, .inl g)) (srcPos := nI 0) (destPos := nI 0) (n := nI 8) (by rw [hT]; exact c0) (by rw [hT]; exact c1) t2 (fun _ h => by cases h) t3 (fun h => by cases h) hkS hkD hkkS hkkD (by simp [refKind]) (by decide) (by decide) (by decide)
    (by rw [i0, i8]; omega) (by rw [i0, i8]; show ¬ _ > ((arrV G.2.1.1 8 (fun j => .int (g j))).slots.size : Int); rw [arrV_size]; omega)
    (fun vm₁ _ j hj => by
      rw [e8] at hj
      rw [e0, Nat.zero_add, el j hj]
      exact ⟨rfl, trivial⟩)
    (g := F0 m pc ls _) rfl (by rw [S.2.2.1]; exact hls) (rest := rest) rfl (by rw [S.2.1]; exact hdg) hframes (by show 2 * 0 + _ + _ ≤ _; omega)
  have ec : copied tab (vp_cell G.2.1.1 (8, .inl g)) (nI 0) (nI 0) (nI 8) = vp_cell G.2.1.1 (8, .inl (va_cpy k_begin g 0 0 8)) := va_copiedX (fun z => .int z) tab G.2.1.1 k_begin g t6 (Nat.le_refl 8)
  rw [ec] at X' step
  have hlt : a < H.size := (Array.getElem?_eq_some_iff.mp c1).1
  generalize hH1 : H.setIfInBounds a (vp_cell G.2.1.1 (8, .inl (va_cpy k_begin g 0 0 8))) = H1
  have oq : ∀ q : Nat, q ≠ a → H1[q]? = H[q]? := fun q hq => by rw [← hH1, Array.getElem?_setIfInBounds_ne (Ne.symm hq)]
  have oa' : H1[a]? = some (vp_cell G.2.1.1 (8, .inl (va_cpy k_begin g 0 0 8))) := by rw [← hH1]; simp [Array.getElem?_setIfInBounds, hlt]
  have hz : H1.size = H.size := by rw [← hH1]; simp
  have hA1 : A a := hD.2 i _ hi
  obtain ⟨t, a1, b1⟩ := kk H1 _ _ (va_up_self ..) mm_fru ⟨⟨_, hP.set (e := ia G 8 (va_cpy k_begin g 0 0 8)) hD hi oa' oq, hD.set hi, mm_set hD hi hw⟩, ⟨by rw [hz]; exact hS.1, fun q g1 g2 => by
      rw [oq q (fun z => g2 (by rw [z]; exact hA1))]
      exact hS.2.1 q g1 g2, fun q hq => by
      rcases List.mem_append.mp hq with h | h
      · exact hS.2.2 q h
      · obtain ⟨z, -, hz⟩ := List.mem_map.mp h
        rw [← hz]
        exact hA1⟩⟩ _ (by rw [← hH1, ← hT]; rfl) X'
  exact ⟨t, step t a1, b1⟩
end MMS
