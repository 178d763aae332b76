/-! ===== both side by side ===== -/
theorem woA.keep {G : mm_G} {M M' : mm_M} {wd : Nat → Nat} {st : Nat → Nat → Int32} {fc fl tn : Nat → Int32} (h : woA G M wd st fc fl tn) (hk : ∀ i, i < 15 → ∀ e, M (wd i) = some e → M' (wd i) = some e) : woA G M' wd st fc fl tn := by
  obtain ⟨h0, ⟨tf, h1, htf⟩, hs, h2, h3, h4, h5, h6⟩ := h
  exact ⟨hk 0 (by decide) _ h0, ⟨tf, hk 1 (by decide) _ h1, htf⟩, fun c hc => ⟨hk _ (by omega) _ (hs c hc).1, hk _ (by omega) _ (hs c hc).2⟩, hk 2 (by decide) _ h2, hk 3 (by decide) _ h3, hk 4 (by decide) _ h4, hk 5 (by decide) _ h5, hk 6 (by decide) _ h6⟩
theorem xA.keep {G : mm_G} {M M1 : mm_M} {ad : Nat → Nat} {cl ll : Nat} {chg wl sp : Int32} {co lr : Nat → Int32} {sh : Nat → Nat} {rem : Nat → Nat → Int32} {nw : Nat} {wst : Nat → Nat → Nat → Int32} {wfc wfl wtn : Nat → Nat → Int32} {wln : Nat → Nat → Nat} {no : Nat} {op : Nat → OpT} {dc : Nat → Nat} (h : xA G M ad cl ll chg wl sp co lr sh rem nw wst wfc wfl wtn wln no op dc) (h18 : no = 0 → ad 18 = G.2.2.2.2.1) (hk : ∀ r, xD nw no r → ∀ e, M (ad r) = some e → M1 (ad r) = some e) : xA G M1 ad cl ll chg wl sp co lr sh rem nw wst wfc wfl wtn wln no op dc := by
  obtain ⟨h0, ⟨fa, fb, fc, fd, h1, h2, h3⟩, ⟨h4, ⟨ga, gb, gc, gd, h5, h6, h7⟩, ge, h8⟩, ⟨d3, h9⟩, ⟨m4, f4, h10, h11, h4c⟩, ⟨f5, h12, h5b⟩, hr6, ⟨f7, h13, h7b⟩, h14, h15, h16, ⟨⟨om, h17⟩, hE, ho⟩, ⟨f12, h19, h12b⟩, ⟨f13, g13, h20, h21, h22⟩, hw⟩ := h
  have k0 : ∀ r, r < 18 → ∀ e, M (ad r) = some e → M1 (ad r) = some e := fun r hr => hk r (by unfold xD; omega)
  have k1 : ∀ r, 19 ≤ r → r < 23 → ∀ e, M (ad r) = some e → M1 (ad r) = some e := fun r hr h2 => hk r (by unfold xD; omega)
  refine ⟨k0 0 (by decide) _ h0, ⟨fa, fb, fc, fd, k0 1 (by decide) _ h1, k0 2 (by decide) _ h2, k0 3 (by decide) _ h3⟩, ⟨k0 4 (by decide) _ h4, ⟨ga, gb, gc, gd, k0 5 (by decide) _ h5, k0 6 (by decide) _ h6, k0 7 (by decide) _ h7⟩, ge, k0 8 (by decide) _ h8⟩, ⟨d3, k0 9 (by decide) _ h9⟩, ⟨m4, f4, k0 10 (by decide) _ h10, k0 11 (by decide) _ h11, h4c⟩, ⟨f5, k0 12 (by decide) _ h12, h5b⟩, fun c hc => ⟨hk _ (by unfold xD; omega) _ (hr6 c hc).1, hk _ (by unfold xD; omega) _ (hr6 c hc).2⟩, ⟨f7, k0 13 (by decide) _ h13, h7b⟩, k0 14 (by decide) _ h14, k0 15 (by decide) _ h15, k0 16 (by decide) _ h16, ⟨⟨om, k0 17 (by decide) _ h17⟩, ?_, fun i hi => ?_⟩, ⟨f12, k1 19 (by decide) (by decide) _ h19, h12b⟩, ⟨f13, g13, k1 20 (by decide) (by decide) _ h20, k1 21 (by decide) (by decide) _ h21, k1 22 (by decide) (by decide) _ h22⟩, fun j hj => (hw j hj).keep (fun i hi => hk (100 + 15 * j + i) (by unfold xD; omega))⟩
  · by_cases e : no = 0
    · exact Or.inl ⟨e, h18 e⟩
    · rcases hE with z | ⟨cap, f, z1, z2⟩
      · exact absurd z.1 e
      · exact Or.inr ⟨cap, f, hk 18 (by unfold xD; omega) _ z1, z2⟩
  · obtain ⟨a, ⟨g, b, c⟩, d⟩ := ho i hi
    exact ⟨hk (1000 + 2 * i) (by unfold xD; omega) _ a, ⟨g, hk (1001 + 2 * i) (by unfold xD; omega) _ b, c⟩, d⟩
theorem yA.keep {G : mm_G} {M M1 : mm_M} {md : Nat → Nat} {cl ll : Nat} {wl sp : Int32} {co lr : Nat → Int32} {sh : Nat → Nat} {rem : Nat → Nat → Int32} {nw : Nat} {wst : Nat → Nat → Nat → Int32} {wfc : Nat → Nat → Int32} {wln : Nat → Nat → Nat} (h : yA G M md cl ll wl sp co lr sh rem nw wst wfc wln) (hk : ∀ k, k < 17 → ∀ e, M (md k) = some e → M1 (md k) = some e) : yA G M1 md cl ll wl sp co lr sh rem nw wst wfc wln := by
  obtain ⟨⟨v22, f, d, h0, h10, h11, ⟨kk, h1, hK⟩, ⟨bb, h2, hB⟩, ⟨i12, h12⟩, ⟨g13, h13⟩, ⟨t14, h14⟩⟩, ⟨ss, h3, hs⟩, ⟨rr0, h4, hrm⟩, ⟨fs, h5, hfs⟩, ⟨fl, h6, hfl⟩, ⟨s7, h7, hsh⟩, ⟨cof, h8, hco⟩, ⟨lrf, h9, hlr⟩, ⟨tt, h15⟩, ⟨p, h16⟩⟩ := h
  exact ⟨⟨v22, f, d, hk 0 (by decide) _ h0, hk 10 (by decide) _ h10, hk 11 (by decide) _ h11, ⟨kk, hk 1 (by decide) _ h1, hK⟩, ⟨bb, hk 2 (by decide) _ h2, hB⟩, ⟨i12, hk 12 (by decide) _ h12⟩, ⟨g13, hk 13 (by decide) _ h13⟩, ⟨t14, hk 14 (by decide) _ h14⟩⟩, ⟨ss, hk 3 (by decide) _ h3, hs⟩, ⟨rr0, hk 4 (by decide) _ h4, hrm⟩, ⟨fs, hk 5 (by decide) _ h5, hfs⟩, ⟨fl, hk 6 (by decide) _ h6, hfl⟩, ⟨s7, hk 7 (by decide) _ h7, hsh⟩, ⟨cof, hk 8 (by decide) _ h8, hco⟩, ⟨lrf, hk 9 (by decide) _ h9, hlr⟩, ⟨tt, hk 15 (by decide) _ h15⟩, ⟨p, hk 16 (by decide) _ h16⟩⟩
theorem yA.has {G : mm_G} {M : mm_M} {md : Nat → Nat} {cl ll : Nat} {wl sp : Int32} {co lr : Nat → Int32} {sh : Nat → Nat} {rem : Nat → Nat → Int32} {nw : Nat} {wst : Nat → Nat → Nat → Int32} {wfc : Nat → Nat → Int32} {wln : Nat → Nat → Nat} (h : yA G M md cl ll wl sp co lr sh rem nw wst wfc wln) : ∀ k, k < 17 → ∃ e, M (md k) = some e := by
  obtain ⟨⟨v22, f, d, h0, h10, h11, ⟨kk, h1, hK⟩, ⟨bb, h2, hB⟩, ⟨i12, h12⟩, ⟨g13, h13⟩, ⟨t14, h14⟩⟩, ⟨ss, h3, hs⟩, ⟨rr0, h4, hrm⟩, ⟨fs, h5, hfs⟩, ⟨fl, h6, hfl⟩, ⟨s7, h7, hsh⟩, ⟨cof, h8, hco⟩, ⟨lrf, h9, hlr⟩, ⟨tt, h15⟩, ⟨p, h16⟩⟩ := h
  intro k hk
  rcases (show k = 0 ∨ k = 1 ∨ k = 2 ∨ k = 3 ∨ k = 4 ∨ k = 5 ∨ k = 6 ∨ k = 7 ∨ k = 8 ∨ k = 9 ∨ k = 10 ∨ k = 11 ∨ k = 12 ∨ k = 13 ∨ k = 14 ∨ k = 15 ∨ k = 16 by omega) with e | e | e | e | e | e | e | e | e | e | e | e | e | e | e | e | e <;> subst e
  · exact ⟨_, h0⟩
  · exact ⟨_, h1⟩
  · exact ⟨_, h2⟩
  · exact ⟨_, h3⟩
  · exact ⟨_, h4⟩
  · exact ⟨_, h5⟩
  · exact ⟨_, h6⟩
  · exact ⟨_, h7⟩
  · exact ⟨_, h8⟩
  · exact ⟨_, h9⟩
  · exact ⟨_, h10⟩
  · exact ⟨_, h11⟩
  · exact ⟨_, h12⟩
  · exact ⟨_, h13⟩
  · exact ⟨_, h14⟩
  · exact ⟨_, h15⟩
  · exact ⟨_, h16⟩
theorem yA.ag {G : mm_G} {M : mm_M} {md : Nat → Nat} {cl ll : Nat} {wl sp : Int32} {co lr : Nat → Int32} {sh : Nat → Nat} {rem : Nat → Nat → Int32} {nw : Nat} {wst : Nat → Nat → Nat → Int32} {wfc : Nat → Nat → Int32} {wln : Nat → Nat → Nat} {rem' : Nat → Nat → Int32} {wst' : Nat → Nat → Nat → Int32} {wfc' : Nat → Nat → Int32} (h : yA G M md cl ll wl sp co lr sh rem nw wst wfc wln) (h1 : ∀ c, c < 4 → ∀ i, i < 84 → rem c i = rem' c i) (h2 : ∀ j, j < nw → ∀ c, c < 4 → ∀ i, i < 84 → wst j c i = wst' j c i) (h3 : ∀ j, j < nw → ∀ x, x < 192 → wfc j x = wfc' j x) : yA G M md cl ll wl sp co lr sh (rem') nw (wst') (wfc') wln := by
  obtain ⟨a, ⟨ss, b1, b2⟩, ⟨rr, c1, c2⟩, ⟨fs, d1, d2⟩, e⟩ := h
  exact ⟨a, ⟨ss, b1, fun j hj c hc i hi => (b2 j hj c hc i hi).trans (h2 j hj c hc i hi)⟩, ⟨rr, c1, fun c hc i hi => (c2 c hc i hi).trans (h1 c hc i hi)⟩, ⟨fs, d1, fun j hj x hx => (d2 j hj x hx).trans (h3 j hj x hx)⟩, e⟩
/-- both hold the same, apart from each other -/
def jA (G : mm_G) (M : mm_M) (ad md : Nat → Nat) (cl ll : Nat) (chg wl sp : Int32) (co lr : Nat → Int32) (sh : Nat → Nat) (rem : Nat → Nat → Int32) (nw : Nat) (wst : Nat → Nat → Nat → Int32) (wfc wfl wtn : Nat → Nat → Int32) (wln : Nat → Nat → Nat) (no : Nat) (op : Nat → OpT) (dc : Nat → Nat) : Prop := xA G M ad cl ll chg wl sp co lr sh rem nw wst wfc wfl wtn wln no op dc ∧ xI ad nw no ∧ xN cl ll chg sh nw wfc wfl wtn wln no ∧ (no = 0 → ad 18 = G.2.2.2.2.1) ∧ yA G M md cl ll wl sp co lr sh rem nw wst wfc wln ∧ yI md ∧ yN cl ll co sh rem nw wst wfc wln ∧ (∀ r k, xD nw no r → k < 17 → ad r ≠ md k) ∧ (chg = 0 → hon no op dc rem nw wst wfc wln)
def jI (G : mm_G) (M : mm_M) (X Y n : Nat) : Prop := ∃ (ad md : Nat → Nat) (cl ll : Nat) (chg wl sp : Int32) (co lr : Nat → Int32) (sh : Nat → Nat) (rem : Nat → Nat → Int32) (nw : Nat) (wst : Nat → Nat → Nat → Int32) (wfc wfl wtn : Nat → Nat → Int32) (wln : Nat → Nat → Nat) (no : Nat) (op : Nat → OpT) (dc : Nat → Nat), ad 0 = X ∧ md 0 = Y ∧ no ≤ n ∧ jA G M ad md cl ll chg wl sp co lr sh rem nw wst wfc wfl wtn wln no op dc
theorem jY {G : mm_G} {M M1 : mm_M} {ad md : Nat → Nat} {cl ll : Nat} {chg wl sp : Int32} {co lr : Nat → Int32} {sh : Nat → Nat} {rem : Nat → Nat → Int32} {nw : Nat} {wst : Nat → Nat → Nat → Int32} {wfc wfl wtn : Nat → Nat → Int32} {wln : Nat → Nat → Nat} {no : Nat} {op : Nat → OpT} {dc : Nat → Nat} (h : jA G M ad md cl ll chg wl sp co lr sh rem nw wst wfc wfl wtn wln no op dc) (hf : xF ad nw no M M1) : yA G M1 md cl ll wl sp co lr sh rem nw wst wfc wln := h.2.2.2.2.1.keep (fun k hk e he => hf _ e he (fun r hr => h.2.2.2.2.2.2.2.1 r k hr hk))
theorem jX {G : mm_G} {M1 M2 : mm_M} {md : Nat → Nat} {an : Nat → Nat} {cl ll : Nat} {chg wl sp : Int32} {co lr : Nat → Int32} {sh : Nat → Nat} {rem : Nat → Nat → Int32} {nw : Nat} {wst : Nat → Nat → Nat → Int32} {wfc wfl wtn : Nat → Nat → Int32} {wln : Nat → Nat → Nat} {no : Nat} {op : Nat → OpT} {dc : Nat → Nat} (h : xA G M1 an cl ll chg wl sp co lr sh rem nw wst wfc wfl wtn wln no op dc) (h18 : no = 0 → an 18 = G.2.2.2.2.1) (hd : ∀ r k, xD nw no r → k < 17 → an r ≠ md k) (ff : mm_fr [md 0, md 3, md 4, md 5, md 6, md 7, md 8, md 9, md 10, md 11, md 12, md 13, md 14, md 15, md 16] M1 M2) : xA G M2 an cl ll chg wl sp co lr sh rem nw wst wfc wfl wtn wln no op dc := h.keep h18 (fun r hr e he => ff.at he (mm_nc (hd r 0 hr (by decide)) (mm_nc (hd r 3 hr (by decide)) (mm_nc (hd r 4 hr (by decide)) (mm_nc (hd r 5 hr (by decide)) (mm_nc (hd r 6 hr (by decide)) (mm_nc (hd r 7 hr (by decide)) (mm_nc (hd r 8 hr (by decide)) (mm_nc (hd r 9 hr (by decide)) (mm_nc (hd r 10 hr (by decide)) (mm_nc (hd r 11 hr (by decide)) (mm_nc (hd r 12 hr (by decide)) (mm_nc (hd r 13 hr (by decide)) (mm_nc (hd r 14 hr (by decide)) (mm_nc (hd r 15 hr (by decide)) (mm_nc (hd r 16 hr (by decide)) mm_n0))))))))))))))))
theorem nI_jn {a b : Nat} (ha : a < 2000) (hb : b < 2000) (h : nI a = nI b) : a = b := (nI_eq (by omega) (by omega)).mp h
theorem byt_xor {x : Int32} {k : Nat} (hx : byt x) (hk : k < 256) : byt (x ^^^ nI k) := by
  have h1 := bn_lt hx
  have e : x ^^^ nI k = nI (bn x ^^^ k) := by
    apply b_ext
    intro i hi
    unfold bt
    rw [Int32.toBitVec_xor, BitVec.getLsbD_xor]
    have e1 : x.toBitVec.getLsbD i = (bn x).testBit i := rfl
    have e2 : (nI k).toBitVec.getLsbD i = k.testBit i := bt_nI k hi
    have e3 : (nI (bn x ^^^ k)).toBitVec.getLsbD i = (bn x ^^^ k).testBit i := bt_nI _ hi
    rw [e1, e2, e3, Nat.testBit_xor]
  rw [e]
  exact byt_nI _ (Nat.xor_lt_two_pow (n := 8) h1 hk)

theorem nI_m1b : ∀ c, c < 8 → nI c ≠ -1 := by decide

set_option maxHeartbeats 1000000 in
theorem j_got {G : mm_G} {M M1 M2 : mm_M} {ad md : Nat → Nat} {cl ll : Nat} {chg wl sp : Int32} {co lr : Nat → Int32} {sh : Nat → Nat} {rem : Nat → Nat → Int32} {nw : Nat} {wst : Nat → Nat → Nat → Int32} {wfc wfl wtn : Nat → Nat → Int32} {wln : Nat → Nat → Nat} {no : Nat} {op : Nat → OpT} {dc : Nat → Nat} {X Y n : Nat} (hj : jA G M ad md cl ll chg wl sp co lr sh rem nw wst wfc wfl wtn wln no op dc) (hX : ad 0 = X) (hY : md 0 = Y) (hn : no ≤ n) (hn5 : n < 512) {r1 r2 : Int32} {x : Int32} (p1 : (fun r M' => ((¬ (∃ j, j < ll ∧ x = nI j) ∧ r = -1) ∨ ∃ j, j < ll ∧ x = nI j ∧ r = lr j) ∧ xA G M' ad cl ll chg wl sp co lr sh rem nw wst wfc wfl wtn wln no op dc ∧ xF ad nw no M M') r1 M1) : yA G M1 md cl ll wl sp co lr sh rem nw wst wfc wln ∧ ((fun r M' => ((¬ (∃ j, j < ll ∧ x = nI j) ∧ r = -1) ∨ ∃ j, j < ll ∧ x = nI j ∧ r = lr j) ∧ yA G M' md cl ll wl sp co lr sh rem nw wst wfc wln ∧ mm_fr [md 0, md 3, md 4, md 5, md 6, md 7, md 8, md 9, md 10, md 11, md 12, md 13, md 14, md 15, md 16] M1 M') r2 M2 → r1 = r2 ∧ jI G M2 X Y (n + 1)) := by
  have hj0 := hj
  obtain ⟨hx, hI, hN, h18, hy, hJ, hyN, hd, hh⟩ := hj
  obtain ⟨x1, x2, x3, x4, x5, x6, x7, x8⟩ := hN
  obtain ⟨y1, y2, y3, y4, y5, y6, y7, y8, y9, y10⟩ := hyN
  obtain ⟨p1, q1, qf⟩ := p1
  refine ⟨jY hj0 qf, fun p2 => ?_⟩
  obtain ⟨p2, q9, ff⟩ := p2
  refine ⟨?_, ⟨ad, md, cl, ll, chg, wl, sp, co, lr, sh, rem, nw, wst, wfc, wfl, wtn, wln, no, op, dc, hX, hY, by omega, jX q1 h18 hd ff, hI, ⟨x1, x2, x3, x4, x5, x6, x7, x8⟩, h18, q9, hJ, ⟨y1, y2, y3, y4, y5, y6, y7, y8, y9, y10⟩, hd, hh⟩⟩
  rcases p1 with ⟨a, e⟩ | ⟨j, hj, ex, e⟩ <;> rcases p2 with ⟨a', e'⟩ | ⟨j', hj', ex', e'⟩
  · rw [e, e']
  · exact absurd ⟨j', hj', ex'⟩ a
  · exact absurd ⟨j, hj, ex⟩ a'
  · rw [e, e', nI_jn (by omega) (by omega) (ex.symm.trans ex')]
set_option maxHeartbeats 1000000 in
theorem j_seen {G : mm_G} {M M1 M2 : mm_M} {ad md : Nat → Nat} {cl ll : Nat} {chg wl sp : Int32} {co lr : Nat → Int32} {sh : Nat → Nat} {rem : Nat → Nat → Int32} {nw : Nat} {wst : Nat → Nat → Nat → Int32} {wfc wfl wtn : Nat → Nat → Int32} {wln : Nat → Nat → Nat} {no : Nat} {op : Nat → OpT} {dc : Nat → Nat} {X Y n : Nat} (hj : jA G M ad md cl ll chg wl sp co lr sh rem nw wst wfc wfl wtn wln no op dc) (hX : ad 0 = X) (hY : md 0 = Y) (hn : no ≤ n) (hn5 : n < 512) {r1 r2 : Int32} {x y : Int32} (p1 : (fun r M' => ((¬ ((∃ j, j < 4 ∧ x = nI j) ∧ ∃ j, j < 4 ∧ y = nI j) ∧ r = -1) ∨ ∃ c k, c < 4 ∧ k < 4 ∧ x = nI c ∧ y = nI k ∧ r = (ct (rem c) k).toInt32) ∧ xA G M' ad cl ll chg wl sp co lr sh rem nw wst wfc wfl wtn wln no op dc ∧ xF ad nw no M M') r1 M1) : yA G M1 md cl ll wl sp co lr sh rem nw wst wfc wln ∧ ((fun r M' => ((¬ ((∃ j, j < 4 ∧ x = nI j) ∧ ∃ j, j < 4 ∧ y = nI j) ∧ r = -1) ∨ ∃ c k, c < 4 ∧ k < 4 ∧ x = nI c ∧ y = nI k ∧ r = (ct (rem c) k).toInt32) ∧ yA G M' md cl ll wl sp co lr sh rem nw wst wfc wln ∧ mm_fr [md 0, md 3, md 4, md 5, md 6, md 7, md 8, md 9, md 10, md 11, md 12, md 13, md 14, md 15, md 16] M1 M') r2 M2 → r1 = r2 ∧ jI G M2 X Y (n + 1)) := by
  have hj0 := hj
  obtain ⟨hx, hI, hN, h18, hy, hJ, hyN, hd, hh⟩ := hj
  obtain ⟨x1, x2, x3, x4, x5, x6, x7, x8⟩ := hN
  obtain ⟨y1, y2, y3, y4, y5, y6, y7, y8, y9, y10⟩ := hyN
  obtain ⟨p1, q1, qf⟩ := p1
  refine ⟨jY hj0 qf, fun p2 => ?_⟩
  obtain ⟨p2, q9, ff⟩ := p2
  refine ⟨?_, ⟨ad, md, cl, ll, chg, wl, sp, co, lr, sh, rem, nw, wst, wfc, wfl, wtn, wln, no, op, dc, hX, hY, by omega, jX q1 h18 hd ff, hI, ⟨x1, x2, x3, x4, x5, x6, x7, x8⟩, h18, q9, hJ, ⟨y1, y2, y3, y4, y5, y6, y7, y8, y9, y10⟩, hd, hh⟩⟩
  rcases p1 with ⟨a, e⟩ | ⟨c, k, hc, hk, ex, ey, e⟩ <;> rcases p2 with ⟨a', e'⟩ | ⟨c', k', hc', hk', ex', ey', e'⟩
  · rw [e, e']
  · exact absurd ⟨⟨c', hc', ex'⟩, k', hk', ey'⟩ a
  · exact absurd ⟨⟨c, hc, ex⟩, k, hk, ey⟩ a'
  · rw [e, e', nI_jn (by omega) (by omega) (ex.symm.trans ex'), nI_jn (by omega) (by omega) (ey.symm.trans ey')]
set_option maxHeartbeats 1000000 in
theorem j_exchange {G : mm_G} {M M1 M2 : mm_M} {ad md : Nat → Nat} {cl ll : Nat} {chg wl sp : Int32} {co lr : Nat → Int32} {sh : Nat → Nat} {rem : Nat → Nat → Int32} {nw : Nat} {wst : Nat → Nat → Nat → Int32} {wfc wfl wtn : Nat → Nat → Int32} {wln : Nat → Nat → Nat} {no : Nat} {op : Nat → OpT} {dc : Nat → Nat} {X Y n : Nat} (hj : jA G M ad md cl ll chg wl sp co lr sh rem nw wst wfc wfl wtn wln no op dc) (hX : ad 0 = X) (hY : md 0 = Y) (hn : no ≤ n) (hn5 : n < 512) {r1 r2 : Int32} {x y : Int32} (p1 : (fun r M' => ((¬ ((∃ j, j < 4 ∧ x = nI j) ∧ (∃ j, j < 4 ∧ y = nI j) ∧ x ≠ y) ∧ r = -1) ∨ ∃ c k, c < 4 ∧ k < 4 ∧ c ≠ k ∧ x = nI c ∧ y = nI k ∧ ((r = 0 ∧ (na (rem c) (rem k) ∨ na (rem k) (rem c))) ∨ (r = 1 ∧ ¬ (na (rem c) (rem k) ∨ na (rem k) (rem c))))) ∧ xA G M' ad cl ll chg wl sp co lr sh rem nw wst wfc wfl wtn wln no op dc ∧ xF ad nw no M M') r1 M1) : yA G M1 md cl ll wl sp co lr sh rem nw wst wfc wln ∧ ((fun r M' => ((¬ ((∃ j, j < 4 ∧ x = nI j) ∧ (∃ j, j < 4 ∧ y = nI j) ∧ x ≠ y) ∧ r = -1) ∨ ∃ c k, c < 4 ∧ k < 4 ∧ c ≠ k ∧ x = nI c ∧ y = nI k ∧ ((r = 0 ∧ (na (rem c) (rem k) ∨ na (rem k) (rem c))) ∨ (r = 1 ∧ ¬ (na (rem c) (rem k) ∨ na (rem k) (rem c))))) ∧ yA G M' md cl ll wl sp co lr sh rem nw wst wfc wln ∧ mm_fr [md 0, md 3, md 4, md 5, md 6, md 7, md 8, md 9, md 10, md 11, md 12, md 13, md 14, md 15, md 16] M1 M') r2 M2 → r1 = r2 ∧ jI G M2 X Y (n + 1)) := by
  have hj0 := hj
  obtain ⟨hx, hI, hN, h18, hy, hJ, hyN, hd, hh⟩ := hj
  obtain ⟨x1, x2, x3, x4, x5, x6, x7, x8⟩ := hN
  obtain ⟨y1, y2, y3, y4, y5, y6, y7, y8, y9, y10⟩ := hyN
  obtain ⟨p1, q1, qf⟩ := p1
  refine ⟨jY hj0 qf, fun p2 => ?_⟩
  obtain ⟨p2, q9, ff⟩ := p2
  refine ⟨?_, ⟨ad, md, cl, ll, chg, wl, sp, co, lr, sh, rem, nw, wst, wfc, wfl, wtn, wln, no, op, dc, hX, hY, by omega, jX q1 h18 hd ff, hI, ⟨x1, x2, x3, x4, x5, x6, x7, x8⟩, h18, q9, hJ, ⟨y1, y2, y3, y4, y5, y6, y7, y8, y9, y10⟩, hd, hh⟩⟩
  rcases p1 with ⟨a, e⟩ | ⟨c, k, hc, hk, hck, ex, ey, e⟩ <;> rcases p2 with ⟨a', e'⟩ | ⟨c', k', hc', hk', hck', ex', ey', e'⟩
  · rw [e, e']
  · exact absurd ⟨⟨c', hc', ex'⟩, ⟨k', hk', ey'⟩, fun z => hck' (nI_jn (by omega) (by omega) (by rw [← ex', ← ey', z]))⟩ a
  · exact absurd ⟨⟨c, hc, ex⟩, ⟨k, hk, ey⟩, fun z => hck (nI_jn (by omega) (by omega) (by rw [← ex, ← ey, z]))⟩ a'
  · have e1 := nI_jn (by omega) (by omega) (ex.symm.trans ex')
    have e2 := nI_jn (by omega) (by omega) (ey.symm.trans ey')
    subst e1 e2
    rcases e with ⟨e, z⟩ | ⟨e, z⟩ <;> rcases e' with ⟨e', z'⟩ | ⟨e', z'⟩
    · rw [e, e']
    · exact absurd z z'
    · exact absurd z' z
    · rw [e, e']
set_option maxHeartbeats 1000000 in
theorem j_statement {G : mm_G} {M M1 M2 : mm_M} {ad md : Nat → Nat} {cl ll : Nat} {chg wl sp : Int32} {co lr : Nat → Int32} {sh : Nat → Nat} {rem : Nat → Nat → Int32} {nw : Nat} {wst : Nat → Nat → Nat → Int32} {wfc wfl wtn : Nat → Nat → Int32} {wln : Nat → Nat → Nat} {no : Nat} {op : Nat → OpT} {dc : Nat → Nat} {X Y n : Nat} (hj : jA G M ad md cl ll chg wl sp co lr sh rem nw wst wfc wfl wtn wln no op dc) (hX : ad 0 = X) (hY : md 0 = Y) (hn : no ≤ n) (hn5 : n < 512) {r1 r2 : Int32} {x y z : Int32} (p1 : (fun r M' => ((¬ ((∃ j, j < 4 ∧ y = nI j) ∧ (∃ j, j < 84 ∧ z = nI j) ∧ (x = -1 ∨ ∃ j, j < nw ∧ x = nI j)) ∧ r = -1) ∨ (∃ c i, c < 4 ∧ i < 84 ∧ x = -1 ∧ y = nI c ∧ z = nI i ∧ r = rem c i) ∨ ∃ j c i, j < nw ∧ c < 4 ∧ i < 84 ∧ x = nI j ∧ y = nI c ∧ z = nI i ∧ r = wst j c i) ∧ xA G M' ad cl ll chg wl sp co lr sh rem nw wst wfc wfl wtn wln no op dc ∧ xF ad nw no M M') r1 M1) : yA G M1 md cl ll wl sp co lr sh rem nw wst wfc wln ∧ ((fun r M' => ((¬ ((∃ j, j < 4 ∧ y = nI j) ∧ (∃ j, j < 84 ∧ z = nI j) ∧ (x = -1 ∨ ∃ j, j < nw ∧ x = nI j)) ∧ r = -1) ∨ (∃ c i, c < 4 ∧ i < 84 ∧ x = -1 ∧ y = nI c ∧ z = nI i ∧ r = rem c i) ∨ ∃ j c i, j < nw ∧ c < 4 ∧ i < 84 ∧ x = nI j ∧ y = nI c ∧ z = nI i ∧ r = wst j c i) ∧ yA G M' md cl ll wl sp co lr sh rem nw wst wfc wln ∧ mm_fr [md 0, md 3, md 4, md 5, md 6, md 7, md 8, md 9, md 10, md 11, md 12, md 13, md 14, md 15, md 16] M1 M') r2 M2 → r1 = r2 ∧ jI G M2 X Y (n + 1)) := by
  have hj0 := hj
  obtain ⟨hx, hI, hN, h18, hy, hJ, hyN, hd, hh⟩ := hj
  obtain ⟨x1, x2, x3, x4, x5, x6, x7, x8⟩ := hN
  obtain ⟨y1, y2, y3, y4, y5, y6, y7, y8, y9, y10⟩ := hyN
  obtain ⟨p1, q1, qf⟩ := p1
  refine ⟨jY hj0 qf, fun p2 => ?_⟩
  obtain ⟨p2, q9, ff⟩ := p2
  refine ⟨?_, ⟨ad, md, cl, ll, chg, wl, sp, co, lr, sh, rem, nw, wst, wfc, wfl, wtn, wln, no, op, dc, hX, hY, by omega, jX q1 h18 hd ff, hI, ⟨x1, x2, x3, x4, x5, x6, x7, x8⟩, h18, q9, hJ, ⟨y1, y2, y3, y4, y5, y6, y7, y8, y9, y10⟩, hd, hh⟩⟩
  rcases p1 with ⟨a, e⟩ | ⟨c, i, hc, hi, ex, ey, ez, e⟩ | ⟨j, c, i, hj, hc, hi, ex, ey, ez, e⟩ <;> rcases p2 with ⟨a', e'⟩ | ⟨c', i', hc', hi', ex', ey', ez', e'⟩ | ⟨j', c', i', hj', hc', hi', ex', ey', ez', e'⟩
  · rw [e, e']
  · exact absurd ⟨⟨c', hc', ey'⟩, ⟨i', hi', ez'⟩, Or.inl ex'⟩ a
  · exact absurd ⟨⟨c', hc', ey'⟩, ⟨i', hi', ez'⟩, Or.inr ⟨j', hj', ex'⟩⟩ a
  · exact absurd ⟨⟨c, hc, ey⟩, ⟨i, hi, ez⟩, Or.inl ex⟩ a'
  · rw [e, e', nI_jn (by omega) (by omega) (ey.symm.trans ey'), nI_jn (by omega) (by omega) (ez.symm.trans ez')]
  · exact absurd (ex'.symm.trans ex) (nI_m1b j' (by omega))
  · exact absurd ⟨⟨c, hc, ey⟩, ⟨i, hi, ez⟩, Or.inr ⟨j, hj, ex⟩⟩ a'
  · exact absurd (ex.symm.trans ex') (nI_m1b j (by omega))
  · rw [e, e', nI_jn (by omega) (by omega) (ex.symm.trans ex'), nI_jn (by omega) (by omega) (ey.symm.trans ey'), nI_jn (by omega) (by omega) (ez.symm.trans ez')]
set_option maxHeartbeats 1000000 in
theorem j_digest {G : mm_G} {M M1 M2 : mm_M} {ad md : Nat → Nat} {cl ll : Nat} {chg wl sp : Int32} {co lr : Nat → Int32} {sh : Nat → Nat} {rem : Nat → Nat → Int32} {nw : Nat} {wst : Nat → Nat → Nat → Int32} {wfc wfl wtn : Nat → Nat → Int32} {wln : Nat → Nat → Nat} {no : Nat} {op : Nat → OpT} {dc : Nat → Nat} {X Y n : Nat} (hj : jA G M ad md cl ll chg wl sp co lr sh rem nw wst wfc wfl wtn wln no op dc) (hX : ad 0 = X) (hY : md 0 = Y) (hn : no ≤ n) (hn5 : n < 512) {r1 r2 : Int32} {x y : Int32} (p1 : (fun r M' => ((¬ ((∃ j, j < 2 ∧ x = nI j) ∧ ∃ j, j < 32 ∧ y = nI j) ∧ r = -1) ∨ (∃ i, i < 32 ∧ x = nI 0 ∧ y = nI i ∧ r = dgb cl co i) ∨ ∃ i, i < 32 ∧ x = nI 1 ∧ y = nI i ∧ r = macb cl co i) ∧ xA G M' ad cl ll chg wl sp co lr sh rem nw wst wfc wfl wtn wln no op dc ∧ xF ad nw no M M') r1 M1) : yA G M1 md cl ll wl sp co lr sh rem nw wst wfc wln ∧ ((fun r M' => ((¬ ((∃ j, j < 2 ∧ x = nI j) ∧ ∃ j, j < 32 ∧ y = nI j) ∧ r = -1) ∨ (∃ i, i < 32 ∧ x = nI 0 ∧ y = nI i ∧ r = dgb cl co i) ∨ ∃ i, i < 32 ∧ x = nI 1 ∧ y = nI i ∧ r = macb cl co i) ∧ yA G M' md cl ll wl sp co lr sh rem nw wst wfc wln ∧ mm_fr [md 0, md 3, md 4, md 5, md 6, md 7, md 8, md 9, md 10, md 11, md 12, md 13, md 14, md 15, md 16] M1 M') r2 M2 → r1 = r2 ∧ jI G M2 X Y (n + 1)) := by
  have hj0 := hj
  obtain ⟨hx, hI, hN, h18, hy, hJ, hyN, hd, hh⟩ := hj
  obtain ⟨x1, x2, x3, x4, x5, x6, x7, x8⟩ := hN
  obtain ⟨y1, y2, y3, y4, y5, y6, y7, y8, y9, y10⟩ := hyN
  obtain ⟨p1, q1, qf⟩ := p1
  refine ⟨jY hj0 qf, fun p2 => ?_⟩
  obtain ⟨p2, q9, ff⟩ := p2
  refine ⟨?_, ⟨ad, md, cl, ll, chg, wl, sp, co, lr, sh, rem, nw, wst, wfc, wfl, wtn, wln, no, op, dc, hX, hY, by omega, jX q1 h18 hd ff, hI, ⟨x1, x2, x3, x4, x5, x6, x7, x8⟩, h18, q9, hJ, ⟨y1, y2, y3, y4, y5, y6, y7, y8, y9, y10⟩, hd, hh⟩⟩
  rcases p1 with ⟨a, e⟩ | ⟨i, hi, ex, ey, e⟩ | ⟨i, hi, ex, ey, e⟩ <;> rcases p2 with ⟨a', e'⟩ | ⟨i', hi', ex', ey', e'⟩ | ⟨i', hi', ex', ey', e'⟩
  · rw [e, e']
  · exact absurd ⟨⟨0, by decide, ex'⟩, i', hi', ey'⟩ a
  · exact absurd ⟨⟨1, by decide, ex'⟩, i', hi', ey'⟩ a
  · exact absurd ⟨⟨0, by decide, ex⟩, i, hi, ey⟩ a'
  · rw [e, e', nI_jn (by omega) (by omega) (ey.symm.trans ey')]
  · exact absurd (ex.symm.trans ex') (by decide)
  · exact absurd ⟨⟨1, by decide, ex⟩, i, hi, ey⟩ a'
  · exact absurd (ex'.symm.trans ex) (by decide)
  · rw [e, e', nI_jn (by omega) (by omega) (ey.symm.trans ey')]
set_option maxHeartbeats 1000000 in
theorem j_count {G : mm_G} {M M1 M2 : mm_M} {ad md : Nat → Nat} {cl ll : Nat} {chg wl sp : Int32} {co lr : Nat → Int32} {sh : Nat → Nat} {rem : Nat → Nat → Int32} {nw : Nat} {wst : Nat → Nat → Nat → Int32} {wfc wfl wtn : Nat → Nat → Int32} {wln : Nat → Nat → Nat} {no : Nat} {op : Nat → OpT} {dc : Nat → Nat} {X Y n : Nat} (hj : jA G M ad md cl ll chg wl sp co lr sh rem nw wst wfc wfl wtn wln no op dc) (hX : ad 0 = X) (hY : md 0 = Y) (hn : no ≤ n) (hn5 : n < 512) {r1 r2 : Int32} {x : Int32} (p1 : (fun r M' => ((x = nI 0 ∧ r = nI nw) ∨ (x = nI 1 ∧ r = wl) ∨ (x = nI 2 ∧ r = sp) ∨ (x = nI 3 ∧ r = nI cl) ∨ (∃ c, c < 4 ∧ x = nI (4 + c) ∧ r = nI (sh c)) ∨ (¬ (∃ j, j < 8 ∧ x = nI j) ∧ r = -1)) ∧ xA G M' ad cl ll chg wl sp co lr sh rem nw wst wfc wfl wtn wln no op dc ∧ xF ad nw no M M') r1 M1) : yA G M1 md cl ll wl sp co lr sh rem nw wst wfc wln ∧ ((fun r M' => ((x = nI 0 ∧ r = nI nw) ∨ (x = nI 1 ∧ r = wl) ∨ (x = nI 2 ∧ r = sp) ∨ (x = nI 3 ∧ r = nI cl) ∨ (∃ c, c < 4 ∧ x = nI (4 + c) ∧ r = nI (sh c)) ∨ (¬ (∃ j, j < 8 ∧ x = nI j) ∧ r = -1)) ∧ yA G M' md cl ll wl sp co lr sh rem nw wst wfc wln ∧ mm_fr [md 0, md 3, md 4, md 5, md 6, md 7, md 8, md 9, md 10, md 11, md 12, md 13, md 14, md 15, md 16] M1 M') r2 M2 → r1 = r2 ∧ jI G M2 X Y (n + 1)) := by
  have hj0 := hj
  obtain ⟨hx, hI, hN, h18, hy, hJ, hyN, hd, hh⟩ := hj
  obtain ⟨x1, x2, x3, x4, x5, x6, x7, x8⟩ := hN
  obtain ⟨y1, y2, y3, y4, y5, y6, y7, y8, y9, y10⟩ := hyN
  obtain ⟨p1, q1, qf⟩ := p1
  refine ⟨jY hj0 qf, fun p2 => ?_⟩
  obtain ⟨p2, q9, ff⟩ := p2
  refine ⟨?_, ⟨ad, md, cl, ll, chg, wl, sp, co, lr, sh, rem, nw, wst, wfc, wfl, wtn, wln, no, op, dc, hX, hY, by omega, jX q1 h18 hd ff, hI, ⟨x1, x2, x3, x4, x5, x6, x7, x8⟩, h18, q9, hJ, ⟨y1, y2, y3, y4, y5, y6, y7, y8, y9, y10⟩, hd, hh⟩⟩
  have key : ∀ r, ((x = nI 0 ∧ r = nI nw) ∨ (x = nI 1 ∧ r = wl) ∨ (x = nI 2 ∧ r = sp) ∨ (x = nI 3 ∧ r = nI cl) ∨ (∃ c, c < 4 ∧ x = nI (4 + c) ∧ r = nI (sh c)) ∨ (¬ (∃ j, j < 8 ∧ x = nI j) ∧ r = -1)) → (∃ j, j < 8 ∧ x = nI j ∧ r = (if j = 0 then nI nw else if j = 1 then wl else if j = 2 then sp else if j = 3 then nI cl else nI (sh (j - 4)))) ∨ (¬ (∃ j, j < 8 ∧ x = nI j) ∧ r = -1) := by
    rintro r (⟨e, z⟩ | ⟨e, z⟩ | ⟨e, z⟩ | ⟨e, z⟩ | ⟨c, hc, e, z⟩ | z)
    · exact Or.inl ⟨0, by decide, e, z⟩
    · exact Or.inl ⟨1, by decide, e, z⟩
    · exact Or.inl ⟨2, by decide, e, z⟩
    · exact Or.inl ⟨3, by decide, e, z⟩
    · exact Or.inl ⟨4 + c, by omega, e, by rw [if_neg (by omega), if_neg (by omega), if_neg (by omega), if_neg (by omega), show 4 + c - 4 = c by omega]; exact z⟩
    · exact Or.inr z
  rcases key _ p1 with ⟨j, hj, e, z⟩ | ⟨a, z⟩ <;> rcases key _ p2 with ⟨j', hj', e', z'⟩ | ⟨a', z'⟩
  · rw [z, z', nI_jn (by omega) (by omega) (e.symm.trans e')]
  · exact absurd ⟨j, hj, e⟩ a'
  · exact absurd ⟨j', hj', e'⟩ a
  · rw [z, z']
set_option maxHeartbeats 1000000 in
theorem j_plain {G : mm_G} {M M1 M2 : mm_M} {ad md : Nat → Nat} {cl ll : Nat} {chg wl sp : Int32} {co lr : Nat → Int32} {sh : Nat → Nat} {rem : Nat → Nat → Int32} {nw : Nat} {wst : Nat → Nat → Nat → Int32} {wfc wfl wtn : Nat → Nat → Int32} {wln : Nat → Nat → Nat} {no : Nat} {op : Nat → OpT} {dc : Nat → Nat} {X Y n : Nat} (hj : jA G M ad md cl ll chg wl sp co lr sh rem nw wst wfc wfl wtn wln no op dc) (hX : ad 0 = X) (hY : md 0 = Y) (hn : no ≤ n) (hn5 : n < 512) {r1 r2 : Int32}  (p1 : (fun r M' => (r = 1 ∨ (r = 0 ∧ chg = 0 ∧ ((∃ a fc fl, a < 4 ∧ ¬ ansP (rem a) op fc (fl_go fl 0 16) a no) ∨ ∃ a b, a < b ∧ b < 4 ∧ (na (rem a) (rem b) ∨ na (rem b) (rem a)) ∧ ¬ begP (rem a) (rem b) op no))) ∧ xA G M' ad cl ll chg wl sp co lr sh rem nw wst wfc wfl wtn wln no op dc ∧ xF ad nw no M M') r1 M1) : yA G M1 md cl ll wl sp co lr sh rem nw wst wfc wln ∧ ((fun r M' => r = 1 ∧ yA G M' md cl ll wl sp co lr sh rem nw wst wfc wln ∧ mm_fr [md 0, md 3, md 4, md 5, md 6, md 7, md 8, md 9, md 10, md 11, md 12, md 13, md 14, md 15, md 16] M1 M') r2 M2 → r1 = r2 ∧ jI G M2 X Y (n + 1)) := by
  have hj0 := hj
  obtain ⟨hx, hI, hN, h18, hy, hJ, hyN, hd, hh⟩ := hj
  obtain ⟨x1, x2, x3, x4, x5, x6, x7, x8⟩ := hN
  obtain ⟨y1, y2, y3, y4, y5, y6, y7, y8, y9, y10⟩ := hyN
  obtain ⟨p1, q1, qf⟩ := p1
  refine ⟨jY hj0 qf, fun p2 => ?_⟩
  obtain ⟨p2, q9, ff⟩ := p2
  refine ⟨?_, ⟨ad, md, cl, ll, chg, wl, sp, co, lr, sh, rem, nw, wst, wfc, wfl, wtn, wln, no, op, dc, hX, hY, by omega, jX q1 h18 hd ff, hI, ⟨x1, x2, x3, x4, x5, x6, x7, x8⟩, h18, q9, hJ, ⟨y1, y2, y3, y4, y5, y6, y7, y8, y9, y10⟩, hd, hh⟩⟩
  rcases p1 with e | ⟨e, hc, z⟩
  · rw [e, p2]
  · have hb : ∀ c, c < 4 → b20 (rem c) := fun c hc i hi => y8 c hc i (by omega)
    exfalso
    rcases z with ⟨a, fc, fl, ha, z⟩ | ⟨a, b, hab, hb4, hl, z⟩
    · exact z (hon_ans (hh hc) (by omega) hb ha fc fl)
    · exact z (hon_beg (hh hc) (by omega) hb (by omega) hb4 hl)
set_option maxHeartbeats 1000000 in
theorem j_feed {G : mm_G} {M M1 M2 : mm_M} {ad md : Nat → Nat} {cl ll : Nat} {chg wl sp : Int32} {co lr : Nat → Int32} {sh : Nat → Nat} {rem : Nat → Nat → Int32} {nw : Nat} {wst : Nat → Nat → Nat → Int32} {wfc wfl wtn : Nat → Nat → Int32} {wln : Nat → Nat → Nat} {no : Nat} {op : Nat → OpT} {dc : Nat → Nat} {X Y n : Nat} (hj : jA G M ad md cl ll chg wl sp co lr sh rem nw wst wfc wfl wtn wln no op dc) (hX : ad 0 = X) (hY : md 0 = Y) (hn : no ≤ n) (hn5 : n < 512) {r1 r2 : Int32} {x : Int32} (p1 : (fun r M' => (r = 0 ∧ ¬ ((∃ j, j < 256 ∧ x = nI j) ∧ cl < 64) ∧ xA G M' ad cl ll chg wl sp co lr sh rem nw wst wfc wfl wtn wln no op dc ∧ xF ad nw no M M') ∨ (r = 1 ∧ ((∃ j, j < 256 ∧ x = nI j) ∧ cl < 64) ∧ xA G M' ad (cl + 1) ll chg wl sp (upd co cl x) lr sh rem nw wst wfc wfl wtn wln no op dc ∧ xF ad nw no M M')) r1 M1) : yA G M1 md cl ll wl sp co lr sh rem nw wst wfc wln ∧ ((fun r M' => (r = 0 ∧ ¬ ((∃ j, j < 256 ∧ x = nI j) ∧ cl < 64) ∧ yA G M' md cl ll wl sp co lr sh rem nw wst wfc wln ∧ mm_fr [md 0, md 3, md 4, md 5, md 6, md 7, md 8, md 9, md 10, md 11, md 12, md 13, md 14, md 15, md 16] M1 M') ∨ (r = 1 ∧ ((∃ j, j < 256 ∧ x = nI j) ∧ cl < 64) ∧ yA G M' md (cl + 1) ll wl sp (upd co cl x) lr sh rem nw wst wfc wln ∧ mm_fr [md 0, md 3, md 4, md 5, md 6, md 7, md 8, md 9, md 10, md 11, md 12, md 13, md 14, md 15, md 16] M1 M')) r2 M2 → r1 = r2 ∧ jI G M2 X Y (n + 1)) := by
  have hj0 := hj
  obtain ⟨hx, hI, hN, h18, hy, hJ, hyN, hd, hh⟩ := hj
  obtain ⟨x1, x2, x3, x4, x5, x6, x7, x8⟩ := hN
  obtain ⟨y1, y2, y3, y4, y5, y6, y7, y8, y9, y10⟩ := hyN
  have qf : xF ad nw no M M1 := by
    rcases p1 with ⟨_, _, _, z⟩ | ⟨_, _, _, z⟩ <;> exact z
  refine ⟨jY hj0 qf, fun p2 => ?_⟩
  rcases p1 with ⟨e, a, q1, _⟩ | ⟨e, a, q1, _⟩ <;> rcases p2 with ⟨e', a', q9, ff⟩ | ⟨e', a', q9, ff⟩
  · exact ⟨by rw [e, e'], ⟨ad, md, cl, ll, chg, wl, sp, co, lr, sh, rem, nw, wst, wfc, wfl, wtn, wln, no, op, dc, hX, hY, by omega, jX q1 h18 hd ff, hI, ⟨x1, x2, x3, x4, x5, x6, x7, x8⟩, h18, q9, hJ, ⟨y1, y2, y3, y4, y5, y6, y7, y8, y9, y10⟩, hd, hh⟩⟩
  · exact absurd a' a
  · exact absurd a a'
  · obtain ⟨⟨j, hj, ex⟩, hc⟩ := a
    exact ⟨by rw [e, e'], ad, md, cl + 1, ll, chg, wl, sp, upd co cl x, lr, sh, rem, nw, wst, wfc, wfl, wtn, wln, no, op, dc, hX, hY, by omega, jX q1 h18 hd ff, hI, ⟨by omega, x2, x3, x4, x5, x6, x7, x8⟩, h18, q9, hJ, ⟨by omega, y2, y3, y4, y5, y6, y7, y8, y9, fun i hi => by unfold upd; by_cases e : i = cl; (rw [if_pos e, ex]; exact byt_nI j hj); (rw [if_neg e]; exact y10 i (by omega))⟩, hd, hh⟩
set_option maxHeartbeats 1000000 in
theorem j_show {G : mm_G} {M M1 M2 : mm_M} {ad md : Nat → Nat} {cl ll : Nat} {chg wl sp : Int32} {co lr : Nat → Int32} {sh : Nat → Nat} {rem : Nat → Nat → Int32} {nw : Nat} {wst : Nat → Nat → Nat → Int32} {wfc wfl wtn : Nat → Nat → Int32} {wln : Nat → Nat → Nat} {no : Nat} {op : Nat → OpT} {dc : Nat → Nat} {X Y n : Nat} (hj : jA G M ad md cl ll chg wl sp co lr sh rem nw wst wfc wfl wtn wln no op dc) (hX : ad 0 = X) (hY : md 0 = Y) (hn : no ≤ n) (hn5 : n < 512) {r1 r2 : Int32} {x y : Int32} (p1 : (fun r M' => (r = -1 ∧ ¬ ((∃ j, j < 4 ∧ x = nI j) ∧ ∃ j, j < nw ∧ y = nI j) ∧ xA G M' ad cl ll chg wl sp co lr sh rem nw wst wfc wfl wtn wln no op dc ∧ xF ad nw no M M') ∨ ∃ c j, c < 4 ∧ j < nw ∧ x = nI c ∧ y = nI j ∧ r = nI (sh c) ∧ xA G M' ad cl ll chg wl sp co lr (upN sh c j) rem nw wst wfc wfl wtn wln no op dc ∧ xF ad nw no M M') r1 M1) : yA G M1 md cl ll wl sp co lr sh rem nw wst wfc wln ∧ ((fun r M' => (r = -1 ∧ ¬ ((∃ j, j < 4 ∧ x = nI j) ∧ ∃ j, j < nw ∧ y = nI j) ∧ yA G M' md cl ll wl sp co lr sh rem nw wst wfc wln ∧ mm_fr [md 0, md 3, md 4, md 5, md 6, md 7, md 8, md 9, md 10, md 11, md 12, md 13, md 14, md 15, md 16] M1 M') ∨ ∃ c j, c < 4 ∧ j < nw ∧ x = nI c ∧ y = nI j ∧ r = nI (sh c) ∧ yA G M' md cl ll wl sp co lr (upN sh c j) rem nw wst wfc wln ∧ mm_fr [md 0, md 3, md 4, md 5, md 6, md 7, md 8, md 9, md 10, md 11, md 12, md 13, md 14, md 15, md 16] M1 M') r2 M2 → r1 = r2 ∧ jI G M2 X Y (n + 1)) := by
  have hj0 := hj
  obtain ⟨hx, hI, hN, h18, hy, hJ, hyN, hd, hh⟩ := hj
  obtain ⟨x1, x2, x3, x4, x5, x6, x7, x8⟩ := hN
  obtain ⟨y1, y2, y3, y4, y5, y6, y7, y8, y9, y10⟩ := hyN
  have qf : xF ad nw no M M1 := by
    rcases p1 with ⟨_, _, _, z⟩ | ⟨_, _, _, _, _, _, _, _, z⟩ <;> exact z
  refine ⟨jY hj0 qf, fun p2 => ?_⟩
  rcases p1 with ⟨e, a, q1, _⟩ | ⟨c, j, hc, hj, ex, ey, e, q1, _⟩ <;> rcases p2 with ⟨e', a', q9, ff⟩ | ⟨c', j', hc', hj', ex', ey', e', q9, ff⟩
  · exact ⟨by rw [e, e'], ⟨ad, md, cl, ll, chg, wl, sp, co, lr, sh, rem, nw, wst, wfc, wfl, wtn, wln, no, op, dc, hX, hY, by omega, jX q1 h18 hd ff, hI, ⟨x1, x2, x3, x4, x5, x6, x7, x8⟩, h18, q9, hJ, ⟨y1, y2, y3, y4, y5, y6, y7, y8, y9, y10⟩, hd, hh⟩⟩
  · exact absurd ⟨⟨c', hc', ex'⟩, j', hj', ey'⟩ a
  · exact absurd ⟨⟨c, hc, ex⟩, j, hj, ey⟩ a'
  · have e1 := nI_jn (by omega) (by omega) (ex.symm.trans ex')
    have e2 := nI_jn (by omega) (by omega) (ey.symm.trans ey')
    subst e1 e2
    have hs : ∀ k, k < 4 → upN sh c j k < nw := fun k hk => by unfold upN; split; (exact hj); (exact x6 k hk)
    exact ⟨by rw [e, e'], ad, md, cl, ll, chg, wl, sp, co, lr, upN sh c j, rem, nw, wst, wfc, wfl, wtn, wln, no, op, dc, hX, hY, by omega, jX q1 h18 hd ff, hI, ⟨x1, x2, x3, x4, x5, hs, x7, x8⟩, h18, q9, hJ, ⟨y1, y2, y3, y4, hs, y6, y7, y8, y9, y10⟩, hd, hh⟩
