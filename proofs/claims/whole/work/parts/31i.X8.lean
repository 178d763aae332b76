/-- the object itself -/
theorem xe_top {G : mm_G} {A : Nat → Prop} {s : State} {H : Heap} {locs : List Loc} {M M' : mm_M} {ad : Nat → Nat} {cl ll : Nat} {chg wl sp : Int32} {co lr : Nat → Int32} {sh : Nat → Nat} {rem : Nat → Nat → Int32} {nw : Nat} {wst : Nat → Nat → Nat → Int32} {wfc wfl wtn : Nat → Nat → Int32} {wln : Nat → Nat → Nat} {no : Nat} {op : Nat → OpT} {dc : Nat → Nat} {cl' ll' : Nat} {chg' wl' sp' : Int32} (hC : mm_C G A s) (hR0 : mm_R G s A M H locs) (hxa : xA G M ad cl ll chg wl sp co lr sh rem nw wst wfc wfl wtn wln no op dc) (hI : xI ad nw no) (h18 : no = 0 → ad 18 = G.2.2.2.2.1) (hnw : nw ≤ 6) (hX : M' (ad 0) = some (ob 9 [.ref (ad 1), .ref (ad 4), .ref (ad 9), .ref (ad 10), .ref (ad 12), .ref (ad 13), .ref (ad 14), .int (nI cl'), .ref (ad 15), .int (nI ll'), .ref (ad 16), .int chg', .int wl', .int sp'])) (ff : mm_fr ([0].map ad) M M') : xA G M' ad cl' ll' chg' wl' sp' co lr sh rem nw wst wfc wfl wtn wln no op dc ∧ xF ad nw no M M' := by
  have hrs : ∀ z, z ∈ [0] → xD nw no z := by
    intro z hz
    simp only [List.mem_cons, List.not_mem_nil, or_false] at hz
    unfold xD
    omega
  obtain ⟨u0, u1, u2, u3, u4, u5, u6, u7, u8, u9, u10, u11, u12, u13, u14⟩ := xA.fr (rs := [0]) hxa hI ff hrs
  exact ⟨⟨hX, u1 (by simp only [List.mem_cons, List.not_mem_nil, or_false]; omega) (by simp only [List.mem_cons, List.not_mem_nil, or_false]; omega) (by simp only [List.mem_cons, List.not_mem_nil, or_false]; omega), u2 (by simp only [List.mem_cons, List.not_mem_nil, or_false]; omega) (by simp only [List.mem_cons, List.not_mem_nil, or_false]; omega) (by simp only [List.mem_cons, List.not_mem_nil, or_false]; omega) (by simp only [List.mem_cons, List.not_mem_nil, or_false]; omega) (by simp only [List.mem_cons, List.not_mem_nil, or_false]; omega), u3 (by simp only [List.mem_cons, List.not_mem_nil, or_false]; omega), u4 (by simp only [List.mem_cons, List.not_mem_nil, or_false]; omega) (by simp only [List.mem_cons, List.not_mem_nil, or_false]; omega), u5 (by simp only [List.mem_cons, List.not_mem_nil, or_false]; omega), fun k hk => u6 k hk (by simp only [List.mem_cons, List.not_mem_nil, or_false]; omega) (by simp only [List.mem_cons, List.not_mem_nil, or_false]; omega), u7 (by simp only [List.mem_cons, List.not_mem_nil, or_false]; omega), u8 (by simp only [List.mem_cons, List.not_mem_nil, or_false]; omega), u9 (by simp only [List.mem_cons, List.not_mem_nil, or_false]; omega), u10 (by simp only [List.mem_cons, List.not_mem_nil, or_false]; omega), u11 (by simp only [List.mem_cons, List.not_mem_nil, or_false]; omega) (by simp only [List.mem_cons, List.not_mem_nil, or_false]; omega) (by intro z hz; simp only [List.mem_cons, List.not_mem_nil, or_false] at hz; omega) (xn18 hC hR0 hxa hI h18 (by intro z hz; simp only [List.mem_cons, List.not_mem_nil, or_false] at hz; omega) hrs), u12 (by simp only [List.mem_cons, List.not_mem_nil, or_false]; omega), u13 (by simp only [List.mem_cons, List.not_mem_nil, or_false]; omega) (by simp only [List.mem_cons, List.not_mem_nil, or_false]; omega) (by simp only [List.mem_cons, List.not_mem_nil, or_false]; omega), fun j2 hj2 => u14 j2 hj2 (by intro z hz; simp only [List.mem_cons, List.not_mem_nil, or_false] at hz; omega)⟩, xF.of (rs := [0]) ff hrs⟩

/-- mac and digestRow -/
theorem xe_chk {G : mm_G} {A : Nat → Prop} {s : State} {H : Heap} {locs : List Loc} {M M' : mm_M} {ad : Nat → Nat} {cl ll : Nat} {chg wl sp : Int32} {co lr : Nat → Int32} {sh : Nat → Nat} {rem : Nat → Nat → Int32} {nw : Nat} {wst : Nat → Nat → Nat → Int32} {wfc wfl wtn : Nat → Nat → Int32} {wln : Nat → Nat → Nat} {no : Nat} {op : Nat → OpT} {dc : Nat → Nat}  (hC : mm_C G A s) (hR0 : mm_R G s A M H locs) (hxa : xA G M ad cl ll chg wl sp co lr sh rem nw wst wfc wfl wtn wln no op dc) (hI : xI ad nw no) (h18 : no = 0 → ad 18 = G.2.2.2.2.1) (hnw : nw ≤ 6) (hmc : mcJ G M' (ad 4) (ad 5) (ad 6) (ad 7) (ad 8)) (h9 : ∃ d, M' (ad 9) = some (ia G 32 d)) (ff : mm_fr ([5, 6, 7, 8, 9].map ad) M M') : xA G M' ad cl ll chg wl sp co lr sh rem nw wst wfc wfl wtn wln no op dc ∧ xF ad nw no M M' := by
  have hrs : ∀ z, z ∈ [5, 6, 7, 8, 9] → xD nw no z := by
    intro z hz
    simp only [List.mem_cons, List.not_mem_nil, or_false] at hz
    unfold xD
    omega
  obtain ⟨u0, u1, u2, u3, u4, u5, u6, u7, u8, u9, u10, u11, u12, u13, u14⟩ := xA.fr (rs := [5, 6, 7, 8, 9]) hxa hI ff hrs
  exact ⟨⟨u0 (by simp only [List.mem_cons, List.not_mem_nil, or_false]; omega), u1 (by simp only [List.mem_cons, List.not_mem_nil, or_false]; omega) (by simp only [List.mem_cons, List.not_mem_nil, or_false]; omega) (by simp only [List.mem_cons, List.not_mem_nil, or_false]; omega), hmc, h9, u4 (by simp only [List.mem_cons, List.not_mem_nil, or_false]; omega) (by simp only [List.mem_cons, List.not_mem_nil, or_false]; omega), u5 (by simp only [List.mem_cons, List.not_mem_nil, or_false]; omega), fun k hk => u6 k hk (by simp only [List.mem_cons, List.not_mem_nil, or_false]; omega) (by simp only [List.mem_cons, List.not_mem_nil, or_false]; omega), u7 (by simp only [List.mem_cons, List.not_mem_nil, or_false]; omega), u8 (by simp only [List.mem_cons, List.not_mem_nil, or_false]; omega), u9 (by simp only [List.mem_cons, List.not_mem_nil, or_false]; omega), u10 (by simp only [List.mem_cons, List.not_mem_nil, or_false]; omega), u11 (by simp only [List.mem_cons, List.not_mem_nil, or_false]; omega) (by simp only [List.mem_cons, List.not_mem_nil, or_false]; omega) (by intro z hz; simp only [List.mem_cons, List.not_mem_nil, or_false] at hz; omega) (xn18 hC hR0 hxa hI h18 (by intro z hz; simp only [List.mem_cons, List.not_mem_nil, or_false] at hz; omega) hrs), u12 (by simp only [List.mem_cons, List.not_mem_nil, or_false]; omega), u13 (by simp only [List.mem_cons, List.not_mem_nil, or_false]; omega) (by simp only [List.mem_cons, List.not_mem_nil, or_false]; omega) (by simp only [List.mem_cons, List.not_mem_nil, or_false]; omega), fun j2 hj2 => u14 j2 hj2 (by intro z hz; simp only [List.mem_cons, List.not_mem_nil, or_false] at hz; omega)⟩, xF.of (rs := [5, 6, 7, 8, 9]) ff hrs⟩

/-- files and tree of a world -/
theorem xe_put {G : mm_G} {A : Nat → Prop} {s : State} {H : Heap} {locs : List Loc} {M M' : mm_M} {ad : Nat → Nat} {cl ll : Nat} {chg wl sp : Int32} {co lr : Nat → Int32} {sh : Nat → Nat} {rem : Nat → Nat → Int32} {nw : Nat} {wst : Nat → Nat → Nat → Int32} {wfc wfl wtn : Nat → Nat → Int32} {wln : Nat → Nat → Nat} {no : Nat} {op : Nat → OpT} {dc : Nat → Nat} {j : Nat} {fc1 fl1 tn1 : Nat → Int32} {wln1 : Nat → Nat → Nat} (hC : mm_C G A s) (hR0 : mm_R G s A M H locs) (hxa : xA G M ad cl ll chg wl sp co lr sh rem nw wst wfc wfl wtn wln no op dc) (hI : xI ad nw no) (h18 : no = 0 → ad 18 = G.2.2.2.2.1) (hnw : nw ≤ 6) (hj : j < nw) (hsh : shJ G M' (ad 1) (ad 2) (ad 3)) (hwo : woA G M' (xW ad j) (wst j) fc1 fl1 tn1) (ff : mm_fr ([1, 2, 3, 100 + 15 * j + 3, 100 + 15 * j + 4, 100 + 15 * j + 6].map ad) M M') : xA G M' ad cl ll chg wl sp co lr sh rem nw wst (updS wfc j fc1) (updS wfl j fl1) (updS wtn j tn1) wln1 no op dc ∧ xF ad nw no M M' := by
  have hrs : ∀ z, z ∈ [1, 2, 3, 100 + 15 * j + 3, 100 + 15 * j + 4, 100 + 15 * j + 6] → xD nw no z := by
    intro z hz
    simp only [List.mem_cons, List.not_mem_nil, or_false] at hz
    unfold xD
    omega
  obtain ⟨u0, u1, u2, u3, u4, u5, u6, u7, u8, u9, u10, u11, u12, u13, u14⟩ := xA.fr (rs := [1, 2, 3, 100 + 15 * j + 3, 100 + 15 * j + 4, 100 + 15 * j + 6]) hxa hI ff hrs
  exact ⟨⟨u0 (by simp only [List.mem_cons, List.not_mem_nil, or_false]; omega), hsh, u2 (by simp only [List.mem_cons, List.not_mem_nil, or_false]; omega) (by simp only [List.mem_cons, List.not_mem_nil, or_false]; omega) (by simp only [List.mem_cons, List.not_mem_nil, or_false]; omega) (by simp only [List.mem_cons, List.not_mem_nil, or_false]; omega) (by simp only [List.mem_cons, List.not_mem_nil, or_false]; omega), u3 (by simp only [List.mem_cons, List.not_mem_nil, or_false]; omega), u4 (by simp only [List.mem_cons, List.not_mem_nil, or_false]; omega) (by simp only [List.mem_cons, List.not_mem_nil, or_false]; omega), u5 (by simp only [List.mem_cons, List.not_mem_nil, or_false]; omega), fun k hk => u6 k hk (by simp only [List.mem_cons, List.not_mem_nil, or_false]; omega) (by simp only [List.mem_cons, List.not_mem_nil, or_false]; omega), u7 (by simp only [List.mem_cons, List.not_mem_nil, or_false]; omega), u8 (by simp only [List.mem_cons, List.not_mem_nil, or_false]; omega), u9 (by simp only [List.mem_cons, List.not_mem_nil, or_false]; omega), u10 (by simp only [List.mem_cons, List.not_mem_nil, or_false]; omega), u11 (by simp only [List.mem_cons, List.not_mem_nil, or_false]; omega) (by simp only [List.mem_cons, List.not_mem_nil, or_false]; omega) (by intro z hz; simp only [List.mem_cons, List.not_mem_nil, or_false] at hz; omega) (xn18 hC hR0 hxa hI h18 (by intro z hz; simp only [List.mem_cons, List.not_mem_nil, or_false] at hz; omega) hrs), u12 (by simp only [List.mem_cons, List.not_mem_nil, or_false]; omega), u13 (by simp only [List.mem_cons, List.not_mem_nil, or_false]; omega) (by simp only [List.mem_cons, List.not_mem_nil, or_false]; omega) (by simp only [List.mem_cons, List.not_mem_nil, or_false]; omega), fun j2 hj2 => by by_cases e : j2 = j; (subst e; rw [updS_s, updS_s, updS_s]; exact hwo); (rw [updS_n e, updS_n e, updS_n e]; exact u14 j2 hj2 (by intro z hz; simp only [List.mem_cons, List.not_mem_nil, or_false] at hz; omega))⟩, xF.of (rs := [1, 2, 3, 100 + 15 * j + 3, 100 + 15 * j + 4, 100 + 15 * j + 6]) ff hrs⟩

/-- lastRead -/
theorem xe_lr {G : mm_G} {A : Nat → Prop} {s : State} {H : Heap} {locs : List Loc} {M M' : mm_M} {ad : Nat → Nat} {cl ll : Nat} {chg wl sp : Int32} {co lr : Nat → Int32} {sh : Nat → Nat} {rem : Nat → Nat → Int32} {nw : Nat} {wst : Nat → Nat → Nat → Int32} {wfc wfl wtn : Nat → Nat → Int32} {wln : Nat → Nat → Nat} {no : Nat} {op : Nat → OpT} {dc : Nat → Nat} {lr1 : Nat → Int32} (hC : mm_C G A s) (hR0 : mm_R G s A M H locs) (hxa : xA G M ad cl ll chg wl sp co lr sh rem nw wst wfc wfl wtn wln no op dc) (hI : xI ad nw no) (h18 : no = 0 → ad 18 = G.2.2.2.2.1) (hnw : nw ≤ 6) (h15 : M' (ad 15) = some (ia G 12 lr1)) (ff : mm_fr ([15].map ad) M M') : xA G M' ad cl ll chg wl sp co lr1 sh rem nw wst wfc wfl wtn wln no op dc ∧ xF ad nw no M M' := by
  have hrs : ∀ z, z ∈ [15] → xD nw no z := by
    intro z hz
    simp only [List.mem_cons, List.not_mem_nil, or_false] at hz
    unfold xD
    omega
  obtain ⟨u0, u1, u2, u3, u4, u5, u6, u7, u8, u9, u10, u11, u12, u13, u14⟩ := xA.fr (rs := [15]) hxa hI ff hrs
  exact ⟨⟨u0 (by simp only [List.mem_cons, List.not_mem_nil, or_false]; omega), u1 (by simp only [List.mem_cons, List.not_mem_nil, or_false]; omega) (by simp only [List.mem_cons, List.not_mem_nil, or_false]; omega) (by simp only [List.mem_cons, List.not_mem_nil, or_false]; omega), u2 (by simp only [List.mem_cons, List.not_mem_nil, or_false]; omega) (by simp only [List.mem_cons, List.not_mem_nil, or_false]; omega) (by simp only [List.mem_cons, List.not_mem_nil, or_false]; omega) (by simp only [List.mem_cons, List.not_mem_nil, or_false]; omega) (by simp only [List.mem_cons, List.not_mem_nil, or_false]; omega), u3 (by simp only [List.mem_cons, List.not_mem_nil, or_false]; omega), u4 (by simp only [List.mem_cons, List.not_mem_nil, or_false]; omega) (by simp only [List.mem_cons, List.not_mem_nil, or_false]; omega), u5 (by simp only [List.mem_cons, List.not_mem_nil, or_false]; omega), fun k hk => u6 k hk (by simp only [List.mem_cons, List.not_mem_nil, or_false]; omega) (by simp only [List.mem_cons, List.not_mem_nil, or_false]; omega), u7 (by simp only [List.mem_cons, List.not_mem_nil, or_false]; omega), u8 (by simp only [List.mem_cons, List.not_mem_nil, or_false]; omega), h15, u10 (by simp only [List.mem_cons, List.not_mem_nil, or_false]; omega), u11 (by simp only [List.mem_cons, List.not_mem_nil, or_false]; omega) (by simp only [List.mem_cons, List.not_mem_nil, or_false]; omega) (by intro z hz; simp only [List.mem_cons, List.not_mem_nil, or_false] at hz; omega) (xn18 hC hR0 hxa hI h18 (by intro z hz; simp only [List.mem_cons, List.not_mem_nil, or_false] at hz; omega) hrs), u12 (by simp only [List.mem_cons, List.not_mem_nil, or_false]; omega), u13 (by simp only [List.mem_cons, List.not_mem_nil, or_false]; omega) (by simp only [List.mem_cons, List.not_mem_nil, or_false]; omega) (by simp only [List.mem_cons, List.not_mem_nil, or_false]; omega), fun j2 hj2 => u14 j2 hj2 (by intro z hz; simp only [List.mem_cons, List.not_mem_nil, or_false] at hz; omega)⟩, xF.of (rs := [15]) ff hrs⟩

/-- a client's next statement -/
theorem xe_mk {G : mm_G} {A : Nat → Prop} {s : State} {H : Heap} {locs : List Loc} {M M' : mm_M} {ad : Nat → Nat} {cl ll : Nat} {chg wl sp : Int32} {co lr : Nat → Int32} {sh : Nat → Nat} {rem : Nat → Nat → Int32} {nw : Nat} {wst : Nat → Nat → Nat → Int32} {wfc wfl wtn : Nat → Nat → Int32} {wln : Nat → Nat → Nat} {no : Nat} {op : Nat → OpT} {dc : Nat → Nat} {j c : Nat} {g1 g2 : Nat → Int32} (hC : mm_C G A s) (hR0 : mm_R G s A M H locs) (hxa : xA G M ad cl ll chg wl sp co lr sh rem nw wst wfc wfl wtn wln no op dc) (hI : xI ad nw no) (h18 : no = 0 → ad 18 = G.2.2.2.2.1) (hnw : nw ≤ 6) (hj : j < nw) (hc : c < 4) (hX : M' (ad 0) = some (ob 9 [.ref (ad 1), .ref (ad 4), .ref (ad 9), .ref (ad 10), .ref (ad 12), .ref (ad 13), .ref (ad 14), .int (nI cl), .ref (ad 15), .int (nI ll), .ref (ad 16), .int chg, .int (wl + nI 1), .int sp])) (hmc : mcJ G M' (ad 4) (ad 5) (ad 6) (ad 7) (ad 8)) (hr : M' (ad (25 + 2 * c)) = some (ia G 84 g1)) (hwo : woA G M' (xW ad j) (updS (wst j) c g2) (wfc j) (wfl j) (wtn j)) (ff : mm_fr ([5, 6, 7, 8, 25 + 2 * c, 100 + 15 * j + (8 + 2 * c), 0].map ad) M M') : xA G M' ad cl ll chg (wl + nI 1) sp co lr sh (updS rem c g1) nw (updW wst j c g2) wfc wfl wtn wln no op dc ∧ xF ad nw no M M' := by
  have hrs : ∀ z, z ∈ [5, 6, 7, 8, 25 + 2 * c, 100 + 15 * j + (8 + 2 * c), 0] → xD nw no z := by
    intro z hz
    simp only [List.mem_cons, List.not_mem_nil, or_false] at hz
    unfold xD
    omega
  obtain ⟨u0, u1, u2, u3, u4, u5, u6, u7, u8, u9, u10, u11, u12, u13, u14⟩ := xA.fr (rs := [5, 6, 7, 8, 25 + 2 * c, 100 + 15 * j + (8 + 2 * c), 0]) hxa hI ff hrs
  exact ⟨⟨hX, u1 (by simp only [List.mem_cons, List.not_mem_nil, or_false]; omega) (by simp only [List.mem_cons, List.not_mem_nil, or_false]; omega) (by simp only [List.mem_cons, List.not_mem_nil, or_false]; omega), hmc, u3 (by simp only [List.mem_cons, List.not_mem_nil, or_false]; omega), u4 (by simp only [List.mem_cons, List.not_mem_nil, or_false]; omega) (by simp only [List.mem_cons, List.not_mem_nil, or_false]; omega), u5 (by simp only [List.mem_cons, List.not_mem_nil, or_false]; omega), fun k hk => by by_cases e : k = c; (subst e; rw [updS_s]; exact ⟨ff.at (hxa.2.2.2.2.2.2.1 k hk).1 (xnin (rs := [5, 6, 7, 8, 25 + 2 * k, 100 + 15 * j + (8 + 2 * k), 0]) hI (by unfold xD; omega) hrs (by simp only [List.mem_cons, List.not_mem_nil, or_false]; omega)), hr⟩); (rw [updS_n e]; exact u6 k hk (by simp only [List.mem_cons, List.not_mem_nil, or_false]; omega) (by simp only [List.mem_cons, List.not_mem_nil, or_false]; omega)), u7 (by simp only [List.mem_cons, List.not_mem_nil, or_false]; omega), u8 (by simp only [List.mem_cons, List.not_mem_nil, or_false]; omega), u9 (by simp only [List.mem_cons, List.not_mem_nil, or_false]; omega), u10 (by simp only [List.mem_cons, List.not_mem_nil, or_false]; omega), u11 (by simp only [List.mem_cons, List.not_mem_nil, or_false]; omega) (by simp only [List.mem_cons, List.not_mem_nil, or_false]; omega) (by intro z hz; simp only [List.mem_cons, List.not_mem_nil, or_false] at hz; omega) (xn18 hC hR0 hxa hI h18 (by intro z hz; simp only [List.mem_cons, List.not_mem_nil, or_false] at hz; omega) hrs), u12 (by simp only [List.mem_cons, List.not_mem_nil, or_false]; omega), u13 (by simp only [List.mem_cons, List.not_mem_nil, or_false]; omega) (by simp only [List.mem_cons, List.not_mem_nil, or_false]; omega) (by simp only [List.mem_cons, List.not_mem_nil, or_false]; omega), fun j2 hj2 => by by_cases e : j2 = j; (subst e; rw [updW_s]; exact hwo); (rw [updW_n e]; exact u14 j2 hj2 (by intro z hz; simp only [List.mem_cons, List.not_mem_nil, or_false] at hz; omega))⟩, xF.of (rs := [5, 6, 7, 8, 25 + 2 * c, 100 + 15 * j + (8 + 2 * c), 0]) ff hrs⟩

theorem xF.tr {ad : Nat → Nat} {nw no : Nat} {M M1 M2 : mm_M} (h : xF ad nw no M M1) (h2 : xF ad nw no M1 M2) : xF ad nw no M M2 := fun q e hq hn => h2 q e (h q e hq hn) hn
theorem xF.fr0 {ad : Nat → Nat} {nw no : Nat} {M M1 M2 : mm_M} (h : xF ad nw no M M1) (h2 : mm_fr [] M1 M2) : xF ad nw no M M2 := fun q e hq hn => h2.at (h q e hq hn) mm_n0
theorem xF.rf {ad : Nat → Nat} {nw no : Nat} {M : mm_M} : xF ad nw no M M := fun _ _ hq _ => hq
/-- one operation more -/
def adN (ad : Nat → Nat) (no E q9 q : Nat) : Nat → Nat := fun r => if r = 18 then E else if r = 1000 + 2 * no then q9 else if r = 1001 + 2 * no then q else ad r
theorem adN_E {ad : Nat → Nat} {no E q9 q : Nat} : adN ad no E q9 q 18 = E := if_pos rfl
theorem adN_O {ad : Nat → Nat} {no E q9 q : Nat} : adN ad no E q9 q (1000 + 2 * no) = q9 := by
  unfold adN
  rw [if_neg (by omega), if_pos rfl]
theorem adN_q {ad : Nat → Nat} {no E q9 q : Nat} : adN ad no E q9 q (1001 + 2 * no) = q := by
  unfold adN
  rw [if_neg (by omega), if_neg (by omega), if_pos rfl]
theorem adN_o {ad : Nat → Nat} {no E q9 q r : Nat} (h : r ≠ 18) (h1 : r ≠ 1000 + 2 * no) (h2 : r ≠ 1001 + 2 * no) : adN ad no E q9 q r = ad r := by
  unfold adN
  rw [if_neg h, if_neg h1, if_neg h2]
/-- what a note touches of the old roles -/
theorem xe_nf {G : mm_G} {A : Nat → Prop} {s : State} {H : Heap} {locs : List Loc} {M M' : mm_M} {ad : Nat → Nat} {nw no : Nat} (hC : mm_C G A s) (hR0 : mm_R G s A M H locs) (h18 : no = 0 → ad 18 = G.2.2.2.2.1) (ff : mm_fr [ad 17, ad 18, ad 19] M M') : ∃ rs : List Nat, (∀ x, x ∈ rs → xD nw no x ∧ (x = 17 ∨ x = 18 ∨ x = 19)) ∧ mm_fr (rs.map ad) M M' := by
  by_cases h0 : no = 0
  · refine ⟨[17, 19], ?_, ?_⟩
    · intro x hx
      simp only [List.mem_cons, List.not_mem_nil, or_false] at hx
      unfold xD
      omega
    · intro q e hq hn
      refine ff q e hq (fun z => ?_)
      simp only [List.mem_cons, List.not_mem_nil, or_false] at z
      rcases z with z | z | z
      · exact hn (by rw [z]; exact List.mem_cons_self)
      · rw [z, h18 h0, mm_Cempty hC hR0] at hq
        cases hq
      · exact hn (by rw [z]; exact List.mem_cons_of_mem _ List.mem_cons_self)
  · refine ⟨[17, 18, 19], ?_, ff⟩
    intro x hx
    simp only [List.mem_cons, List.not_mem_nil, or_false] at hx
    unfold xD
    omega

set_option maxHeartbeats 4000000 in
theorem xe_note {G : mm_G} {A : Nat → Prop} {s : State} {H H2 : Heap} {locs locs2 : List Loc} {M M' : mm_M} {ad : Nat → Nat} {cl ll : Nat} {chg wl sp : Int32} {co lr : Nat → Int32} {sh : Nat → Nat} {rem : Nat → Nat → Int32} {nw : Nat} {wst : Nat → Nat → Nat → Int32} {wfc wfl wtn : Nat → Nat → Int32} {wln : Nat → Nat → Nat} {no : Nat} {op : Nat → OpT} {dc : Nat → Nat} {E' q q9 : Nat} {o : OpT} {d' : Nat → Int32} {dc' : Nat → Nat} (hC : mm_C G A s) (hR0 : mm_R G s A M H locs) (hR1 : mm_R G s A M' H2 locs2) (hxa : xA G M ad cl ll chg wl sp co lr sh rem nw wst wfc wfl wtn wln no op dc) (hI : xI ad nw no) (h18 : no = 0 → ad 18 = G.2.2.2.2.1) (hnw : nw ≤ 6) (hq : M q = none) (hO : M q9 = none) (hE : E' = ad 18 ∨ M E' = none) (hop : opsA G M' (ad 17) E' (no + 1) (va_up (fun i => ad (1000 + 2 * i)) no q9) (va_up (fun i => ad (1001 + 2 * i)) no q) (opx op no o)) (hdn : M' (ad 19) = some (ia G 4 d')) (hd : ∀ c, c < 4 → d' c = nI (dc' c)) (ff : mm_fr [ad 17, ad 18, ad 19] M M') :
    xA G M' (adN ad no E' q9 q) cl ll chg wl sp co lr sh rem nw wst wfc wfl wtn wln (no + 1) (opx op no o) dc' ∧ xI (adN ad no E' q9 q) nw (no + 1) ∧ xF ad nw no M M' ∧ ∀ r, xD nw (no + 1) r → (∃ r0, xD nw no r0 ∧ adN ad no E' q9 q r = ad r0) ∨ M (adN ad no E' q9 q r) = none := by
  obtain ⟨rs, hrs, f2⟩ := xe_nf (nw := nw) hC hR0 h18 ff
  have nr : ∀ z, z ≠ 17 → z ≠ 18 → z ≠ 19 → z ∉ rs := fun z h1 h2 h3 h => by
    have := (hrs z h).2
    omega
  obtain ⟨u0, u1, u2, u3, u4, u5, u6, u7, u8, u9, u10, -, -, u13, u14⟩ := xA.fr (rs := rs) hxa hI f2 (fun x hx => (hrs x hx).1)
  have k : ∀ r, r < 1000 → r ≠ 18 → adN ad no E' q9 q r = ad r := fun r hr h => adN_o h (by omega) (by omega)
  obtain ⟨ho1, ho2, ho3⟩ := id hop
  have hE9 : ∃ cap f, M' E' = some (oa G cap f) := by
    rcases ho2 with ⟨z, _⟩ | ⟨cap, f, z, _⟩
    · omega
    · exact ⟨cap, f, z⟩
  have hlast := ho3 no (by omega)
  rw [va_up_self, va_up_self] at hlast
  have hcas : ∀ r, xD nw (no + 1) r → r = 18 ∨ r = 1000 + 2 * no ∨ r = 1001 + 2 * no ∨ (xD nw no r ∧ r ≠ 18 ∧ adN ad no E' q9 q r = ad r) := fun r hr => by
    by_cases e1 : r = 18
    · exact Or.inl e1
    · by_cases e2 : r = 1000 + 2 * no
      · exact Or.inr (Or.inl e2)
      · by_cases e3 : r = 1001 + 2 * no
        · exact Or.inr (Or.inr (Or.inl e3))
        · exact Or.inr (Or.inr (Or.inr ⟨by unfold xD at hr ⊢; omega, e1, adN_o e1 e2 e3⟩))
  have hEe : no = 0 → E' ≠ ad 18 := fun h0 e => by
    obtain ⟨cap, f, z⟩ := hE9
    rw [e, h18 h0, mm_Cempty hC hR1] at z
    cases z
  have dE : ∀ r, xD nw no r → r ≠ 18 → E' ≠ ad r := fun r hr h8 e => by
    rcases hE with z | z
    · by_cases h0 : no = 0
      · exact hEe h0 z
      · exact h8 (hI r 18 hr (by unfold xD; omega) (e.symm.trans z))
    · obtain ⟨c, hc⟩ := hxa.has r hr h8
      rw [← e, z] at hc
      cases hc
  have dO : ∀ r, xD nw no r → r ≠ 18 → q9 ≠ ad r := fun r hr h8 e => by
    obtain ⟨c, hc⟩ := hxa.has r hr h8
    rw [← e, hO] at hc
    cases hc
  have dq : ∀ r, xD nw no r → r ≠ 18 → q ≠ ad r := fun r hr h8 e => by
    obtain ⟨c, hc⟩ := hxa.has r hr h8
    rw [← e, hq] at hc
    cases hc
  obtain ⟨l1, ⟨g2, l2, -⟩, -⟩ := id hlast
  obtain ⟨cap, fE, hE9⟩ := hE9
  have dEO : E' ≠ q9 := Ne.symm (mm_neoi l1 hE9)
  have dEq : E' ≠ q := mm_neoa hE9 l2
  have dOq : q9 ≠ q := mm_neoi l1 l2
  refine ⟨?_, ?_, xF.of (rs := rs) f2 (fun x hx => (hrs x hx).1), ?_⟩
  · unfold xA
    rw [k 0 (by omega) (by omega), k 1 (by omega) (by omega), k 2 (by omega) (by omega), k 3 (by omega) (by omega), k 4 (by omega) (by omega), k 5 (by omega) (by omega), k 6 (by omega) (by omega), k 7 (by omega) (by omega), k 8 (by omega) (by omega), k 9 (by omega) (by omega), k 10 (by omega) (by omega), k 11 (by omega) (by omega), k 12 (by omega) (by omega), k 13 (by omega) (by omega), k 14 (by omega) (by omega), k 15 (by omega) (by omega), k 16 (by omega) (by omega), k 17 (by omega) (by omega), adN_E, k 19 (by omega) (by omega), k 20 (by omega) (by omega), k 21 (by omega) (by omega), k 22 (by omega) (by omega)]
    refine ⟨u0 (nr _ (by omega) (by omega) (by omega)), u1 (nr _ (by omega) (by omega) (by omega)) (nr _ (by omega) (by omega) (by omega)) (nr _ (by omega) (by omega) (by omega)), u2 (nr _ (by omega) (by omega) (by omega)) (nr _ (by omega) (by omega) (by omega)) (nr _ (by omega) (by omega) (by omega)) (nr _ (by omega) (by omega) (by omega)) (nr _ (by omega) (by omega) (by omega)), u3 (nr _ (by omega) (by omega) (by omega)), ?_, ?_, fun c hc => ?_, u7 (nr _ (by omega) (by omega) (by omega)), u8 (nr _ (by omega) (by omega) (by omega)), u9 (nr _ (by omega) (by omega) (by omega)), u10 (nr _ (by omega) (by omega) (by omega)), ?_, ⟨d', hdn, hd⟩, u13 (nr _ (by omega) (by omega) (by omega)) (nr _ (by omega) (by omega) (by omega)) (nr _ (by omega) (by omega) (by omega)), fun j hj => ?_⟩
    · obtain ⟨mc, f, a, b, d⟩ := u4 (nr _ (by omega) (by omega) (by omega)) (nr _ (by omega) (by omega) (by omega))
      exact ⟨mc, f, a, b, fun j hj => by rw [d j hj]; exact congrArg some (k _ (by omega) (by omega)).symm⟩
    · obtain ⟨rf, a, b⟩ := u5 (nr _ (by omega) (by omega) (by omega))
      exact ⟨rf, a, fun c hc => by rw [k _ (by omega) (by omega)]; exact b c hc⟩
    · rw [k _ (by omega) (by omega), k (25 + 2 * c) (by omega) (by omega)]
      exact u6 c hc (nr _ (by omega) (by omega) (by omega)) (nr _ (by omega) (by omega) (by omega))
    · have eO : ∀ i, i < no + 1 → va_up (fun i => ad (1000 + 2 * i)) no q9 i = adN ad no E' q9 q (1000 + 2 * i) := fun i hi => by
        by_cases e : i = no
        · subst e
          rw [va_up_self, adN_O]
        · rw [va_up_ne _ _ e, adN_o (by omega) (by omega) (by omega)]
      have eq : ∀ i, i < no + 1 → va_up (fun i => ad (1001 + 2 * i)) no q i = adN ad no E' q9 q (1001 + 2 * i) := fun i hi => by
        by_cases e : i = no
        · subst e
          rw [va_up_self, adN_q]
        · rw [va_up_ne _ _ e, adN_o (by omega) (by omega) (by omega)]
      refine ⟨ho1, ?_, fun i hi => ?_⟩
      · rcases ho2 with z | ⟨cap2, f2, b1, b2, b3, b4, b5⟩
        · exact Or.inl z
        · exact Or.inr ⟨cap2, f2, b1, b2, b3, b4, fun i hi => by rw [b5 i hi, eO i hi]⟩
      · have z := ho3 i hi
        rw [eO i hi, eq i hi] at z
        exact z
    · obtain ⟨w0, ⟨tf, w1, w1b⟩, ws, w2, w3, w4, w5, w6⟩ := u14 j hj (fun r hr => by have := (hrs r hr).2; omega)
      have e9 : ∀ i, i < 15 → xW (adN ad no E' q9 q) j i = xW ad j i := fun i hi => k _ (by omega) (by omega)
      unfold woA
      rw [e9 0 (by omega), e9 1 (by omega), e9 2 (by omega), e9 3 (by omega), e9 4 (by omega), e9 5 (by omega), e9 6 (by omega)]
      exact ⟨w0, ⟨tf, w1, fun c hc => by rw [e9 _ (by omega)]; exact w1b c hc⟩, fun c hc => by rw [e9 _ (by omega), e9 (8 + 2 * c) (by omega)]; exact ws c hc, w2, w3, w4, w5, w6⟩
  · intro r r' hr hr' e
    rcases hcas r hr with a | a | a | ⟨a, a8, a2⟩ <;> rcases hcas r' hr' with b | b | b | ⟨b, b8, b2⟩
    · omega
    · subst a; subst b; rw [adN_E, adN_O] at e; exact absurd e dEO
    · subst a; subst b; rw [adN_E, adN_q] at e; exact absurd e dEq
    · subst a; rw [adN_E, b2] at e; exact absurd e (dE r' b b8)
    · subst a; subst b; rw [adN_E, adN_O] at e; exact absurd e.symm dEO
    · omega
    · subst a; subst b; rw [adN_O, adN_q] at e; exact absurd e dOq
    · subst a; rw [adN_O, b2] at e; exact absurd e (dO r' b b8)
    · subst a; subst b; rw [adN_E, adN_q] at e; exact absurd e.symm dEq
    · subst a; subst b; rw [adN_O, adN_q] at e; exact absurd e.symm dOq
    · omega
    · subst a; rw [adN_q, b2] at e; exact absurd e (dq r' b b8)
    · subst b; rw [adN_E, a2] at e; exact absurd e.symm (dE r a a8)
    · subst b; rw [adN_O, a2] at e; exact absurd e.symm (dO r a a8)
    · subst b; rw [adN_q, a2] at e; exact absurd e.symm (dq r a a8)
    · rw [a2, b2] at e; exact hI r r' a b e
  · intro r hr
    rcases hcas r hr with a | a | a | ⟨a, a8, a2⟩
    · subst a
      rw [adN_E]
      rcases hE with z | z
      · by_cases h0 : no = 0
        · exact absurd z (hEe h0)
        · exact Or.inl ⟨18, by unfold xD; omega, z⟩
      · exact Or.inr z
    · subst a; rw [adN_O]; exact Or.inr hO
    · subst a; rw [adN_q]; exact Or.inr hq
    · exact Or.inl ⟨r, a, a2⟩
theorem woA.ext {G : mm_G} {M : mm_M} {wd wd2 : Nat → Nat} {st : Nat → Nat → Int32} {fc fl tn : Nat → Int32} (h : woA G M wd st fc fl tn) (e9 : ∀ i, i < 15 → wd2 i = wd i) : woA G M wd2 st fc fl tn := by
  obtain ⟨w0, ⟨tf, w1, w1b⟩, ws, w2, w3, w4, w5, w6⟩ := h
  unfold woA
  rw [e9 0 (by omega), e9 1 (by omega), e9 2 (by omega), e9 3 (by omega), e9 4 (by omega), e9 5 (by omega), e9 6 (by omega)]
  exact ⟨w0, ⟨tf, w1, fun c hc => by rw [e9 _ (by omega)]; exact w1b c hc⟩, fun c hc => by rw [e9 _ (by omega), e9 (8 + 2 * c) (by omega)]; exact ws c hc, w2, w3, w4, w5, w6⟩
