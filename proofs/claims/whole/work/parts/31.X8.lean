/-! ===== ForkWatch whole: its cells by a function of numbers. 0 itself; 1 to 3 sha; 4 to 8 mac; 9 digestRow; 10, 11 the list of worlds; 12 remembered; 13 shown; 14 collected; 15 lastRead; 16 history; 17, 18 the list of operations; 19 done; 20 to 22 the store; 24 + 2c, 25 + 2c what client c remembers; 100 + 15j .. world j; 1000 + 2i, 1001 + 2i operation i ===== -/
def xD (nw no r : Nat) : Prop := r < 18 ∨ (r = 18 ∧ 0 < no) ∨ (19 ≤ r ∧ r < 23) ∨ (24 ≤ r ∧ r < 32) ∨ (100 ≤ r ∧ r < 100 + 15 * nw) ∨ (1000 ≤ r ∧ r < 1000 + 2 * no)
def xI (ad : Nat → Nat) (nw no : Nat) : Prop := ∀ r r', xD nw no r → xD nw no r' → ad r = ad r' → r = r'
def xW (ad : Nat → Nat) (j : Nat) : Nat → Nat := fun k => ad (100 + 15 * j + k)
/-- the cells -/
def xA (G : mm_G) (M : mm_M) (ad : Nat → Nat) (cl ll : Nat) (chg wl sp : Int32) (co lr : Nat → Int32) (sh : Nat → Nat) (rem : Nat → Nat → Int32) (nw : Nat) (wst : Nat → Nat → Nat → Int32) (wfc wfl wtn : Nat → Nat → Int32) (wln : Nat → Nat → Nat) (no : Nat) (op : Nat → OpT) (dc : Nat → Nat) : Prop :=
  M (ad 0) = some (ob 9 [.ref (ad 1), .ref (ad 4), .ref (ad 9), .ref (ad 10), .ref (ad 12), .ref (ad 13), .ref (ad 14), .int (nI cl), .ref (ad 15), .int (nI ll), .ref (ad 16), .int chg, .int wl, .int sp]) ∧ shJ G M (ad 1) (ad 2) (ad 3) ∧ mcJ G M (ad 4) (ad 5) (ad 6) (ad 7) (ad 8) ∧ (∃ d, M (ad 9) = some (ia G 32 d)) ∧
  (∃ (mc : Int32) (f : Nat → Option Nat), M (ad 10) = some (ob 0 [.int mc, .ref (ad 11), .int (nI nw)]) ∧ M (ad 11) = some (oa G 10 f) ∧ ∀ j, j < nw → f j = some (xW ad j 0)) ∧
  (∃ rf : Nat → Option Nat, M (ad 12) = some (sa G 4 rf) ∧ ∀ c, c < 4 → rf c = some (ad (24 + 2 * c))) ∧ (∀ c, c < 4 → M (ad (24 + 2 * c)) = some (ob 6 [.ref (ad (25 + 2 * c))]) ∧ M (ad (25 + 2 * c)) = some (ia G 84 (rem c))) ∧
  (∃ s : Nat → Int32, M (ad 13) = some (ia G 4 s) ∧ ∀ c, c < 4 → s c = nI (sh c)) ∧ M (ad 14) = some (ia G 64 co) ∧ M (ad 15) = some (ia G 12 lr) ∧ M (ad 16) = some (ob 2 [.ref (ad 17), .ref (ad 19), .ref (ad 20)]) ∧
  opsA G M (ad 17) (ad 18) no (fun i => ad (1000 + 2 * i)) (fun i => ad (1001 + 2 * i)) op ∧ (∃ d : Nat → Int32, M (ad 19) = some (ia G 4 d) ∧ ∀ c, c < 4 → d c = nI (dc c)) ∧ (∃ fc fl, fiA G M (ad 20) (ad 21) (ad 22) fc fl) ∧ (∀ j, j < nw → woA G M (xW ad j) (wst j) (wfc j) (wfl j) (wtn j))
/-- what the numbers keep to -/
def xN (cl ll : Nat) (chg : Int32) (sh : Nat → Nat) (nw : Nat) (wfc wfl wtn : Nat → Nat → Int32) (wln : Nat → Nat → Nat) (no : Nat) : Prop := cl ≤ 64 ∧ ll ≤ 12 ∧ (chg = 0 ∨ chg = 1) ∧ 1 ≤ nw ∧ nw ≤ 6 ∧ (∀ c, c < 4 → sh c < nw) ∧ (∀ j, j < nw → tOK (wfc j) (wfl j) (wtn j) (wln j)) ∧ no < 600
/-- the rest of the memory stays -/
def xF (ad : Nat → Nat) (nw no : Nat) (M M' : mm_M) : Prop := ∀ (q : Nat) (e : va_E), M q = some e → (∀ r, xD nw no r → ad r ≠ q) → M' q = some e
theorem xne0 {ad : Nat → Nat} {nw no i j : Nat} (h : xI ad nw no) (hi : i < 18 ∨ (19 ≤ i ∧ i < 23) ∨ (24 ≤ i ∧ i < 32)) (hj : j < 18 ∨ (19 ≤ j ∧ j < 23) ∨ (24 ≤ j ∧ j < 32)) (hn : i ≠ j) : ad i ≠ ad j := fun e => hn (h i j (by unfold xD; omega) (by unfold xD; omega) e)
theorem xne {ad : Nat → Nat} {nw no i j : Nat} (h : xI ad nw no) (hi : xD nw no i) (hj : xD nw no j) (hn : i ≠ j) : ad i ≠ ad j := fun e => hn (h i j hi hj e)
theorem xnin {ad : Nat → Nat} {nw no r : Nat} {rs : List Nat} (h : xI ad nw no) (hr : xD nw no r) (hrs : ∀ x, x ∈ rs → xD nw no x) (hn : r ∉ rs) : ad r ∉ rs.map ad := by
  intro z
  obtain ⟨x, hx, e⟩ := List.mem_map.mp z
  exact hn (by rw [← h x r (hrs x hx) hr e]; exact hx)
theorem xF.of {ad : Nat → Nat} {nw no : Nat} {M M' : mm_M} {rs : List Nat} (ff : mm_fr (rs.map ad) M M') (hrs : ∀ x, x ∈ rs → xD nw no x) : xF ad nw no M M' := fun q e hq hn => ff q e hq (fun z => by
  obtain ⟨x, hx, e2⟩ := List.mem_map.mp z
  exact hn x (hrs x hx) e2)
theorem xW_I {ad : Nat → Nat} {nw no j : Nat} (h : xI ad nw no) (hj : j < nw) : woI (xW ad j) := fun a b ha hb e => by
  have := h (100 + 15 * j + a) (100 + 15 * j + b) (by unfold xD; omega) (by unfold xD; omega) e
  omega

/-- blocks that a change of the cells rs doesn't touch -/
theorem xA.fr {G : mm_G} {M M' : mm_M} {ad : Nat → Nat} {cl ll : Nat} {chg wl sp : Int32} {co lr : Nat → Int32} {sh : Nat → Nat} {rem : Nat → Nat → Int32} {nw : Nat} {wst : Nat → Nat → Nat → Int32} {wfc wfl wtn : Nat → Nat → Int32} {wln : Nat → Nat → Nat} {no : Nat} {op : Nat → OpT} {dc : Nat → Nat} {rs : List Nat} (h : xA G M ad cl ll chg wl sp co lr sh rem nw wst wfc wfl wtn wln no op dc) (hI : xI ad nw no) (ff : mm_fr (rs.map ad) M M') (hrs : ∀ x, x ∈ rs → xD nw no x) :
    (0 ∉ rs → M' (ad 0) = some (ob 9 [.ref (ad 1), .ref (ad 4), .ref (ad 9), .ref (ad 10), .ref (ad 12), .ref (ad 13), .ref (ad 14), .int (nI cl), .ref (ad 15), .int (nI ll), .ref (ad 16), .int chg, .int wl, .int sp])) ∧ (1 ∉ rs → 2 ∉ rs → 3 ∉ rs → shJ G M' (ad 1) (ad 2) (ad 3)) ∧ (4 ∉ rs → 5 ∉ rs → 6 ∉ rs → 7 ∉ rs → 8 ∉ rs → mcJ G M' (ad 4) (ad 5) (ad 6) (ad 7) (ad 8)) ∧ (9 ∉ rs → ∃ d, M' (ad 9) = some (ia G 32 d)) ∧
  (10 ∉ rs → 11 ∉ rs → ∃ (mc : Int32) (f : Nat → Option Nat), M' (ad 10) = some (ob 0 [.int mc, .ref (ad 11), .int (nI nw)]) ∧ M' (ad 11) = some (oa G 10 f) ∧ ∀ j, j < nw → f j = some (xW ad j 0)) ∧
  (12 ∉ rs → ∃ rf : Nat → Option Nat, M' (ad 12) = some (sa G 4 rf) ∧ ∀ c, c < 4 → rf c = some (ad (24 + 2 * c))) ∧ (∀ c, c < 4 → 24 + 2 * c ∉ rs → 25 + 2 * c ∉ rs → M' (ad (24 + 2 * c)) = some (ob 6 [.ref (ad (25 + 2 * c))]) ∧ M' (ad (25 + 2 * c)) = some (ia G 84 (rem c))) ∧
  (13 ∉ rs → ∃ s : Nat → Int32, M' (ad 13) = some (ia G 4 s) ∧ ∀ c, c < 4 → s c = nI (sh c)) ∧ (14 ∉ rs → M' (ad 14) = some (ia G 64 co)) ∧ (15 ∉ rs → M' (ad 15) = some (ia G 12 lr)) ∧ (16 ∉ rs → M' (ad 16) = some (ob 2 [.ref (ad 17), .ref (ad 19), .ref (ad 20)])) ∧
  (17 ∉ rs → 18 ∉ rs → (∀ r, r ∈ rs → r < 1000) → ad 18 ∉ rs.map ad → opsA G M' (ad 17) (ad 18) no (fun i => ad (1000 + 2 * i)) (fun i => ad (1001 + 2 * i)) op) ∧ (19 ∉ rs → ∃ d : Nat → Int32, M' (ad 19) = some (ia G 4 d) ∧ ∀ c, c < 4 → d c = nI (dc c)) ∧ (20 ∉ rs → 21 ∉ rs → 22 ∉ rs → ∃ fc fl, fiA G M' (ad 20) (ad 21) (ad 22) fc fl) ∧ (∀ j, j < nw → (∀ r, r ∈ rs → r < 100 + 15 * j ∨ 115 + 15 * j ≤ r) → woA G M' (xW ad j) (wst j) (wfc j) (wfl j) (wtn j)) := by
  obtain ⟨h0, h1, h2, ⟨d3, h3⟩, ⟨m4, f4, h4a, h4b, h4c⟩, ⟨f5, h5a, h5b⟩, h6, ⟨f7, h7a, h7b⟩, h8, h9, h10, h11, ⟨f12, h12a, h12b⟩, ⟨f13, g13, h13⟩, h14⟩ := h
  have nn : ∀ r, xD nw no r → r ∉ rs → ad r ∉ rs.map ad := fun r hr hn => xnin hI hr hrs hn
  have n0 : ∀ r, r < 18 → r ∉ rs → ad r ∉ rs.map ad := fun r hr hn => nn r (by unfold xD; omega) hn
  have n1 : ∀ r, 19 ≤ r → r < 23 → r ∉ rs → ad r ∉ rs.map ad := fun r hr h2 hn => nn r (by unfold xD; omega) hn
  refine ⟨fun z => ff.at h0 (n0 0 (by omega) z), fun z1 z2 z3 => ?_, fun z4 z5 z6 z7 z8 => h2.out ff (n0 4 (by omega) z4) (n0 5 (by omega) z5) (n0 6 (by omega) z6) (n0 7 (by omega) z7) (n0 8 (by omega) z8), fun z => ⟨d3, ff.at h3 (n0 9 (by omega) z)⟩, fun z1 z2 => ⟨m4, f4, ff.at h4a (n0 10 (by omega) z1), ff.at h4b (n0 11 (by omega) z2), h4c⟩, fun z => ⟨f5, ff.at h5a (n0 12 (by omega) z), h5b⟩, fun c hc z1 z2 => ⟨ff.at (h6 c hc).1 (nn _ (by unfold xD; omega) z1), ff.at (h6 c hc).2 (nn _ (by unfold xD; omega) z2)⟩, fun z => ⟨f7, ff.at h7a (n0 13 (by omega) z), h7b⟩, fun z => ff.at h8 (n0 14 (by omega) z), fun z => ff.at h9 (n0 15 (by omega) z), fun z => ff.at h10 (n0 16 (by omega) z), fun z1 z2 z3 z4 => h11.out ff (n0 17 (by omega) z1) z4 (fun i hi => ⟨nn _ (by unfold xD; omega) (fun y => absurd (z3 _ y) (by omega)), nn _ (by unfold xD; omega) (fun y => absurd (z3 _ y) (by omega))⟩), fun z => ⟨f12, ff.at h12a (n1 19 (by omega) (by omega) z), h12b⟩, fun z1 z2 z3 => ⟨f13, g13, ff.at h13.1 (n1 20 (by omega) (by omega) z1), ff.at h13.2.1 (n1 21 (by omega) (by omega) z2), ff.at h13.2.2 (n1 22 (by omega) (by omega) z3)⟩, fun j hj z => (h14 j hj).out ff (fun i hi => nn (100 + 15 * j + i) (by unfold xD; omega) (fun y => by have := z _ y; omega))⟩
  obtain ⟨a, b, c, d, e1, e2, e3⟩ := h1
  exact ⟨a, b, c, d, ff.at e1 (n0 1 (by omega) z1), ff.at e2 (n0 2 (by omega) z2), ff.at e3 (n0 3 (by omega) z3)⟩

theorem xA.has {G : mm_G} {M : mm_M} {ad : Nat → Nat} {cl ll : Nat} {chg wl sp : Int32} {co lr : Nat → Int32} {sh : Nat → Nat} {rem : Nat → Nat → Int32} {nw : Nat} {wst : Nat → Nat → Nat → Int32} {wfc wfl wtn : Nat → Nat → Int32} {wln : Nat → Nat → Nat} {no : Nat} {op : Nat → OpT} {dc : Nat → Nat} (h : xA G M ad cl ll chg wl sp co lr sh rem nw wst wfc wfl wtn wln no op dc) : ∀ r, xD nw no r → r ≠ 18 → ∃ e, M (ad r) = some e := by
  intro r hr h18
  obtain ⟨h0, ⟨fa, fb, fc, fd, h1, h2, h3⟩, ⟨h4, ⟨ga, gb, gc, gd, h5, h6, h7⟩, ge, h8⟩, ⟨d3, h9⟩, ⟨m4, f4, h10, h11, h4c⟩, ⟨f5, h12, h5b⟩, hr6, ⟨f7, h13, h7b⟩, h14, h15, h16, hop, ⟨f12, h19, h12b⟩, ⟨f13, g13, h20, h21, h22⟩, hw⟩ := h
  obtain ⟨⟨om, h17⟩, -, ho⟩ := hop
  unfold xD at hr
  rcases (show r = 0 ∨ r = 1 ∨ r = 2 ∨ r = 3 ∨ r = 4 ∨ r = 5 ∨ r = 6 ∨ r = 7 ∨ r = 8 ∨ r = 9 ∨ r = 10 ∨ r = 11 ∨ r = 12 ∨ r = 13 ∨ r = 14 ∨ r = 15 ∨ r = 16 ∨ r = 17 ∨ r = 19 ∨ r = 20 ∨ r = 21 ∨ r = 22 ∨ (24 ≤ r ∧ r < 32) ∨ (100 ≤ r ∧ r < 100 + 15 * nw) ∨ (1000 ≤ r ∧ r < 1000 + 2 * no) by omega) with e | e | e | e | e | e | e | e | e | e | e | e | e | e | e | e | e | e | e | e | e | e | e | e | e
  · subst e; exact ⟨_, h0⟩
  · subst e; exact ⟨_, h1⟩
  · subst e; exact ⟨_, h2⟩
  · subst e; exact ⟨_, h3⟩
  · subst e; exact ⟨_, h4⟩
  · subst e; exact ⟨_, h5⟩
  · subst e; exact ⟨_, h6⟩
  · subst e; exact ⟨_, h7⟩
  · subst e; exact ⟨_, h8⟩
  · subst e; exact ⟨_, h9⟩
  · subst e; exact ⟨_, h10⟩
  · subst e; exact ⟨_, h11⟩
  · subst e; exact ⟨_, h12⟩
  · subst e; exact ⟨_, h13⟩
  · subst e; exact ⟨_, h14⟩
  · subst e; exact ⟨_, h15⟩
  · subst e; exact ⟨_, h16⟩
  · subst e; exact ⟨_, h17⟩
  · subst e; exact ⟨_, h19⟩
  · subst e; exact ⟨_, h20⟩
  · subst e; exact ⟨_, h21⟩
  · subst e; exact ⟨_, h22⟩
  · have hh := hr6 ((r - 24) / 2) (by omega)
    by_cases z : r % 2 = 0
    · rw [show 24 + 2 * ((r - 24) / 2) = r by omega] at hh
      exact ⟨_, hh.1⟩
    · rw [show 25 + 2 * ((r - 24) / 2) = r by omega] at hh
      exact ⟨_, hh.2⟩
  · obtain ⟨w0, ⟨tf, w1, -⟩, ws, w2, w3, w4, w5, w6⟩ := hw ((r - 100) / 15) (by omega)
    have key : ∀ k, k = (r - 100) % 15 → xW ad ((r - 100) / 15) k = ad r := fun k hk => by
      show ad (100 + 15 * ((r - 100) / 15) + k) = ad r
      congr 1
      omega
    rcases (show (r - 100) % 15 = 0 ∨ (r - 100) % 15 = 1 ∨ (r - 100) % 15 = 2 ∨ (r - 100) % 15 = 3 ∨ (r - 100) % 15 = 4 ∨ (r - 100) % 15 = 5 ∨ (r - 100) % 15 = 6 ∨ 7 ≤ (r - 100) % 15 by omega) with z | z | z | z | z | z | z | z
    · rw [key 0 z.symm] at w0; exact ⟨_, w0⟩
    · rw [key 1 z.symm] at w1; exact ⟨_, w1⟩
    · rw [key 2 z.symm] at w2; exact ⟨_, w2⟩
    · rw [key 3 z.symm] at w3; exact ⟨_, w3⟩
    · rw [key 4 z.symm] at w4; exact ⟨_, w4⟩
    · rw [key 5 z.symm] at w5; exact ⟨_, w5⟩
    · rw [key 6 z.symm] at w6; exact ⟨_, w6⟩
    · have hh := ws (((r - 100) % 15 - 7) / 2) (by omega)
      by_cases y : ((r - 100) % 15 - 7) % 2 = 0
      · have h1 := hh.1
        rw [key _ (by omega)] at h1
        exact ⟨_, h1⟩
      · have h1 := hh.2
        rw [key _ (by omega)] at h1
        exact ⟨_, h1⟩
  · have hh := ho ((r - 1000) / 2) (by omega)
    obtain ⟨o1, ⟨g2, o2, -⟩, -⟩ := hh
    dsimp only at o1 o2
    by_cases z : r % 2 = 0
    · have e1 : ad (1000 + 2 * ((r - 1000) / 2)) = ad r := by congr 1; omega
      rw [e1] at o1
      exact ⟨_, o1⟩
    · have e1 : ad (1001 + 2 * ((r - 1000) / 2)) = ad r := by congr 1; omega
      rw [e1] at o2
      exact ⟨_, o2⟩
theorem xn18 {G : mm_G} {A : Nat → Prop} {s : State} {H : Heap} {locs : List Loc} {M : mm_M} {ad : Nat → Nat} {cl ll : Nat} {chg wl sp : Int32} {co lr : Nat → Int32} {sh : Nat → Nat} {rem : Nat → Nat → Int32} {nw : Nat} {wst : Nat → Nat → Nat → Int32} {wfc wfl wtn : Nat → Nat → Int32} {wln : Nat → Nat → Nat} {no : Nat} {op : Nat → OpT} {dc : Nat → Nat} {rs : List Nat} (hC : mm_C G A s) (hR : mm_R G s A M H locs) (h : xA G M ad cl ll chg wl sp co lr sh rem nw wst wfc wfl wtn wln no op dc) (hI : xI ad nw no) (h18 : no = 0 → ad 18 = G.2.2.2.2.1) (hn : ∀ r, r ∈ rs → r ≠ 18) (hrs : ∀ r, r ∈ rs → xD nw no r) : ad 18 ∉ rs.map ad := by
  intro z
  obtain ⟨x, hx, e⟩ := List.mem_map.mp z
  by_cases h0 : no = 0
  · obtain ⟨c, hc⟩ := h.has x (hrs x hx) (hn x hx)
    rw [e, h18 h0, mm_Cempty hC hR] at hc
    cases hc
  · exact hn x hx (hI x 18 (hrs x hx) (by unfold xD; omega) e)
