set_option maxHeartbeats 1000000 in
theorem j_poke {G : mm_G} {M M1 M2 : mm_M} {ad md : Nat → Nat} {cl ll : Nat} {chg wl sp : Int32} {co lr : Nat → Int32} {sh : Nat → Nat} {rem : Nat → Nat → Int32} {nw : Nat} {wst : Nat → Nat → Nat → Int32} {wfc wfl wtn : Nat → Nat → Int32} {wln : Nat → Nat → Nat} {no : Nat} {op : Nat → OpT} {dc : Nat → Nat} {X Y n : Nat} (hj : jA G M ad md cl ll chg wl sp co lr sh rem nw wst wfc wfl wtn wln no op dc) (hX : ad 0 = X) (hY : md 0 = Y) (hn : no ≤ n) (hn5 : n < 512) {r1 r2 : Int32} {x y z v : Int32} (p1 : (fun r M' => (r = 0 ∧ ¬ ((∃ j, j < nw ∧ x = nI j) ∧ (∃ j, j < 4 ∧ y = nI j) ∧ (∃ j, j < 84 ∧ z = nI j) ∧ ∃ j, 1 ≤ j ∧ j < 256 ∧ v = nI j) ∧ xA G M' ad cl ll chg wl sp co lr sh rem nw wst wfc wfl wtn wln no op dc ∧ xF ad nw no M M') ∨ ∃ j c i k, j < nw ∧ c < 4 ∧ i < 84 ∧ 1 ≤ k ∧ k < 256 ∧ x = nI j ∧ y = nI c ∧ z = nI i ∧ v = nI k ∧ r = 1 ∧ xA G M' ad cl ll (nI 1) wl sp co lr sh rem nw (updW wst j c (upd (wst j c) i (wst j c i ^^^ nI k))) wfc wfl wtn wln no op dc ∧ xF ad nw no M M') r1 M1) : yA G M1 md cl ll wl sp co lr sh rem nw wst wfc wln ∧ ((fun r M' => (r = 0 ∧ ¬ ((∃ j, j < nw ∧ x = nI j) ∧ (∃ j, j < 4 ∧ y = nI j) ∧ (∃ j, j < 84 ∧ z = nI j) ∧ ∃ j, 1 ≤ j ∧ j < 256 ∧ v = nI j) ∧ yA G M' md cl ll wl sp co lr sh rem nw wst wfc wln ∧ mm_fr [md 0, md 3, md 4, md 5, md 6, md 7, md 8, md 9, md 10, md 11, md 12, md 13, md 14, md 15, md 16] M1 M') ∨ ∃ j c i k, j < nw ∧ c < 4 ∧ i < 84 ∧ 1 ≤ k ∧ k < 256 ∧ x = nI j ∧ y = nI c ∧ z = nI i ∧ v = nI k ∧ r = 1 ∧ yA G M' md cl ll wl sp co lr sh rem nw (updW wst j c (upd (wst j c) i (wst j c i ^^^ nI k))) wfc wln ∧ mm_fr [md 0, md 3, md 4, md 5, md 6, md 7, md 8, md 9, md 10, md 11, md 12, md 13, md 14, md 15, md 16] M1 M') r2 M2 → r1 = r2 ∧ jI G M2 X Y (n + 1)) := by
  have hj0 := hj
  obtain ⟨hx, hI, hN, h18, hy, hJ, hyN, hd, hh⟩ := hj
  obtain ⟨x1, x2, x3, x4, x5, x6, x7, x8⟩ := hN
  obtain ⟨y1, y2, y3, y4, y5, y6, y7, y8, y9, y10⟩ := hyN
  have qf : xF ad nw no M M1 := by
    rcases p1 with ⟨_, _, _, z⟩ | ⟨_, _, _, _, _, _, _, _, _, _, _, _, _, _, _, z⟩ <;> exact z
  refine ⟨jY hj0 qf, fun p2 => ?_⟩
  rcases p1 with ⟨e, a, q1, _⟩ | ⟨j, c, i, k, hj, hc, hi, hk1, hk, ex, ey, ez, ev, e, q1, _⟩ <;> rcases p2 with ⟨e', a', q9, ff⟩ | ⟨j', c', i', k', hj', hc', hi', hk1', hk', ex', ey', ez', ev', e', q9, ff⟩
  · exact ⟨by rw [e, e'], ⟨ad, md, cl, ll, chg, wl, sp, co, lr, sh, rem, nw, wst, wfc, wfl, wtn, wln, no, op, dc, hX, hY, by omega, jX q1 h18 hd ff, hI, ⟨x1, x2, x3, x4, x5, x6, x7, x8⟩, h18, q9, hJ, ⟨y1, y2, y3, y4, y5, y6, y7, y8, y9, y10⟩, hd, hh⟩⟩
  · exact absurd ⟨⟨j', hj', ex'⟩, ⟨c', hc', ey'⟩, ⟨i', hi', ez'⟩, k', hk1', hk', ev'⟩ a
  · exact absurd ⟨⟨j, hj, ex⟩, ⟨c, hc, ey⟩, ⟨i, hi, ez⟩, k, hk1, hk, ev⟩ a'
  · have e1 := nI_jn (by omega) (by omega) (ex.symm.trans ex')
    have e2 := nI_jn (by omega) (by omega) (ey.symm.trans ey')
    have e3 := nI_jn (by omega) (by omega) (ez.symm.trans ez')
    have e4 := nI_jn (by omega) (by omega) (ev.symm.trans ev')
    subst e1 e2 e3 e4
    have hb : ∀ j', j' < nw → ∀ c', c' < 4 → ∀ i', i' < 84 → byt (updW wst j c (upd (wst j c) i (wst j c i ^^^ nI k)) j' c' i') := fun j' hj' c' hc' i' hi' => by
      by_cases e : j' = j ∧ c' = c
      · rw [e.1, e.2, uW_s]
        unfold upd
        split
        · exact byt_xor (y7 j hj c hc i hi) hk
        · exact y7 j hj c hc i' hi'
      · rw [uW_n (by omega)]
        exact y7 j' hj' c' hc' i' hi'
    exact ⟨by rw [e, e'], ad, md, cl, ll, nI 1, wl, sp, co, lr, sh, rem, nw, _, wfc, wfl, wtn, wln, no, op, dc, hX, hY, by omega, jX q1 h18 hd ff, hI, ⟨x1, x2, Or.inr rfl, x4, x5, x6, x7, x8⟩, h18, q9, hJ, ⟨y1, y2, y3, y4, y5, y6, hb, y8, y9, y10⟩, hd, fun z => absurd z (by decide)⟩
set_option maxHeartbeats 1000000 in
theorem j_graft {G : mm_G} {M M1 M2 : mm_M} {ad md : Nat → Nat} {cl ll : Nat} {chg wl sp : Int32} {co lr : Nat → Int32} {sh : Nat → Nat} {rem : Nat → Nat → Int32} {nw : Nat} {wst : Nat → Nat → Nat → Int32} {wfc wfl wtn : Nat → Nat → Int32} {wln : Nat → Nat → Nat} {no : Nat} {op : Nat → OpT} {dc : Nat → Nat} {X Y n : Nat} (hj : jA G M ad md cl ll chg wl sp co lr sh rem nw wst wfc wfl wtn wln no op dc) (hX : ad 0 = X) (hY : md 0 = Y) (hn : no ≤ n) (hn5 : n < 512) {r1 r2 : Int32} {x y z : Int32} (p1 : (fun r M' => (r = 0 ∧ ¬ ((∃ j, j < nw ∧ x = nI j) ∧ (∃ j, j < 4 ∧ y = nI j) ∧ (∃ j, j < nw ∧ z = nI j)) ∧ xA G M' ad cl ll chg wl sp co lr sh rem nw wst wfc wfl wtn wln no op dc ∧ xF ad nw no M M') ∨ ∃ j c k, j < nw ∧ c < 4 ∧ k < nw ∧ x = nI j ∧ y = nI c ∧ z = nI k ∧ r = 1 ∧ xA G M' ad cl ll (nI 1) wl sp co lr sh rem nw (updW wst j c (va_cpy (wst k c) (wst j c) 0 0 84)) wfc wfl wtn wln no op dc ∧ xF ad nw no M M') r1 M1) : yA G M1 md cl ll wl sp co lr sh rem nw wst wfc wln ∧ ((fun r M' => (r = 0 ∧ ¬ ((∃ j, j < nw ∧ x = nI j) ∧ (∃ j, j < 4 ∧ y = nI j) ∧ (∃ j, j < nw ∧ z = nI j)) ∧ yA G M' md cl ll wl sp co lr sh rem nw wst wfc wln ∧ mm_fr [md 0, md 3, md 4, md 5, md 6, md 7, md 8, md 9, md 10, md 11, md 12, md 13, md 14, md 15, md 16] M1 M') ∨ ∃ j c k, j < nw ∧ c < 4 ∧ k < nw ∧ x = nI j ∧ y = nI c ∧ z = nI k ∧ r = 1 ∧ yA G M' md cl ll wl sp co lr sh rem nw (updW wst j c (va_cpy (wst k c) (wst j c) 0 0 84)) wfc wln ∧ mm_fr [md 0, md 3, md 4, md 5, md 6, md 7, md 8, md 9, md 10, md 11, md 12, md 13, md 14, md 15, md 16] M1 M') r2 M2 → r1 = r2 ∧ jI G M2 X Y (n + 1)) := by
  have hj0 := hj
  obtain ⟨hx, hI, hN, h18, hy, hJ, hyN, hd, hh⟩ := hj
  obtain ⟨x1, x2, x3, x4, x5, x6, x7, x8⟩ := hN
  obtain ⟨y1, y2, y3, y4, y5, y6, y7, y8, y9, y10⟩ := hyN
  have qf : xF ad nw no M M1 := by
    rcases p1 with ⟨_, _, _, z⟩ | ⟨_, _, _, _, _, _, _, _, _, _, _, z⟩ <;> exact z
  refine ⟨jY hj0 qf, fun p2 => ?_⟩
  rcases p1 with ⟨e, a, q1, _⟩ | ⟨j, c, k, hj, hc, hk, ex, ey, ez, e, q1, _⟩ <;> rcases p2 with ⟨e', a', q9, ff⟩ | ⟨j', c', k', hj', hc', hk', ex', ey', ez', e', q9, ff⟩
  · exact ⟨by rw [e, e'], ⟨ad, md, cl, ll, chg, wl, sp, co, lr, sh, rem, nw, wst, wfc, wfl, wtn, wln, no, op, dc, hX, hY, by omega, jX q1 h18 hd ff, hI, ⟨x1, x2, x3, x4, x5, x6, x7, x8⟩, h18, q9, hJ, ⟨y1, y2, y3, y4, y5, y6, y7, y8, y9, y10⟩, hd, hh⟩⟩
  · exact absurd ⟨⟨j', hj', ex'⟩, ⟨c', hc', ey'⟩, k', hk', ez'⟩ a
  · exact absurd ⟨⟨j, hj, ex⟩, ⟨c, hc, ey⟩, k, hk, ez⟩ a'
  · have e1 := nI_jn (by omega) (by omega) (ex.symm.trans ex')
    have e2 := nI_jn (by omega) (by omega) (ey.symm.trans ey')
    have e3 := nI_jn (by omega) (by omega) (ez.symm.trans ez')
    subst e1 e2 e3
    have hb : ∀ j', j' < nw → ∀ c', c' < 4 → ∀ i', i' < 84 → byt (updW wst j c (va_cpy (wst k c) (wst j c) 0 0 84) j' c' i') := fun j' hj' c' hc' i' hi' => by
      by_cases e : j' = j ∧ c' = c
      · rw [e.1, e.2, uW_s, cpy_in (by omega) (by omega)]
        exact y7 k hk c hc _ (by omega)
      · rw [uW_n (by omega)]
        exact y7 j' hj' c' hc' i' hi'
    exact ⟨by rw [e, e'], ad, md, cl, ll, nI 1, wl, sp, co, lr, sh, rem, nw, _, wfc, wfl, wtn, wln, no, op, dc, hX, hY, by omega, jX q1 h18 hd ff, hI, ⟨x1, x2, Or.inr rfl, x4, x5, x6, x7, x8⟩, h18, q9, hJ, ⟨y1, y2, y3, y4, y5, y6, hb, y8, y9, y10⟩, hd, fun z => absurd z (by decide)⟩
set_option maxHeartbeats 1000000 in
theorem j_spoil {G : mm_G} {M M1 M2 : mm_M} {ad md : Nat → Nat} {cl ll : Nat} {chg wl sp : Int32} {co lr : Nat → Int32} {sh : Nat → Nat} {rem : Nat → Nat → Int32} {nw : Nat} {wst : Nat → Nat → Nat → Int32} {wfc wfl wtn : Nat → Nat → Int32} {wln : Nat → Nat → Nat} {no : Nat} {op : Nat → OpT} {dc : Nat → Nat} {X Y n : Nat} (hj : jA G M ad md cl ll chg wl sp co lr sh rem nw wst wfc wfl wtn wln no op dc) (hX : ad 0 = X) (hY : md 0 = Y) (hn : no ≤ n) (hn5 : n < 512) {r1 r2 : Int32} {x y z v : Int32} (p1 : (fun r M' => (r = 0 ∧ ¬ (∃ j fi i k, j < nw ∧ fi < 16 ∧ i < wln j fi ∧ 1 ≤ k ∧ k < 256 ∧ x = nI j ∧ y = nI fi ∧ z = nI i ∧ v = nI k) ∧ xA G M' ad cl ll chg wl sp co lr sh rem nw wst wfc wfl wtn wln no op dc ∧ xF ad nw no M M') ∨ ∃ j fi i k tn', j < nw ∧ fi < 16 ∧ i < wln j fi ∧ 1 ≤ k ∧ k < 256 ∧ x = nI j ∧ y = nI fi ∧ z = nI i ∧ v = nI k ∧ r = 1 ∧ tOK (upd (wfc j) (fi * 12 + i) (wfc j (fi * 12 + i) ^^^ nI k)) (wfl j) tn' (wln j) ∧ xA G M' ad cl ll (nI 1) wl sp co lr sh rem nw wst (updS wfc j (upd (wfc j) (fi * 12 + i) (wfc j (fi * 12 + i) ^^^ nI k))) wfl (updS wtn j tn') wln no op dc ∧ xF ad nw no M M') r1 M1) : yA G M1 md cl ll wl sp co lr sh rem nw wst wfc wln ∧ ((fun r M' => (r = 0 ∧ ¬ (∃ j fi i k, j < nw ∧ fi < 16 ∧ i < wln j fi ∧ 1 ≤ k ∧ k < 256 ∧ x = nI j ∧ y = nI fi ∧ z = nI i ∧ v = nI k) ∧ yA G M' md cl ll wl sp co lr sh rem nw wst wfc wln ∧ mm_fr [md 0, md 3, md 4, md 5, md 6, md 7, md 8, md 9, md 10, md 11, md 12, md 13, md 14, md 15, md 16] M1 M') ∨ ∃ j fi i k, j < nw ∧ fi < 16 ∧ i < wln j fi ∧ 1 ≤ k ∧ k < 256 ∧ x = nI j ∧ y = nI fi ∧ z = nI i ∧ v = nI k ∧ r = 1 ∧ yA G M' md cl ll wl sp co lr sh rem nw wst (updS wfc j (upd (wfc j) (fi * 12 + i) (wfc j (fi * 12 + i) ^^^ nI k))) wln ∧ mm_fr [md 0, md 3, md 4, md 5, md 6, md 7, md 8, md 9, md 10, md 11, md 12, md 13, md 14, md 15, md 16] M1 M') r2 M2 → r1 = r2 ∧ jI G M2 X Y (n + 1)) := by
  have hj0 := hj
  obtain ⟨hx, hI, hN, h18, hy, hJ, hyN, hd, hh⟩ := hj
  obtain ⟨x1, x2, x3, x4, x5, x6, x7, x8⟩ := hN
  obtain ⟨y1, y2, y3, y4, y5, y6, y7, y8, y9, y10⟩ := hyN
  have qf : xF ad nw no M M1 := by
    rcases p1 with ⟨_, _, _, z⟩ | ⟨_, _, _, _, _, _, _, _, _, _, _, _, _, _, _, _, _, z⟩ <;> exact z
  refine ⟨jY hj0 qf, fun p2 => ?_⟩
  rcases p1 with ⟨e, a, q1, _⟩ | ⟨j, fi, i, k, tn', hj, hfi, hi, hk1, hk, ex, ey, ez, ev, e, ht, q1, _⟩ <;> rcases p2 with ⟨e', a', q9, ff⟩ | ⟨j', fi', i', k', hj', hfi', hi', hk1', hk', ex', ey', ez', ev', e', q9, ff⟩
  · exact ⟨by rw [e, e'], ⟨ad, md, cl, ll, chg, wl, sp, co, lr, sh, rem, nw, wst, wfc, wfl, wtn, wln, no, op, dc, hX, hY, by omega, jX q1 h18 hd ff, hI, ⟨x1, x2, x3, x4, x5, x6, x7, x8⟩, h18, q9, hJ, ⟨y1, y2, y3, y4, y5, y6, y7, y8, y9, y10⟩, hd, hh⟩⟩
  · exact absurd ⟨j', fi', i', k', hj', hfi', hi', hk1', hk', ex', ey', ez', ev'⟩ a
  · exact absurd ⟨j, fi, i, k, hj, hfi, hi, hk1, hk, ex, ey, ez, ev⟩ a'
  · have h12 := y6 j hj fi hfi
    have h12' := y6 j' hj' fi' hfi'
    have e1 := nI_jn (by omega) (by omega) (ex.symm.trans ex')
    have e2 := nI_jn (by omega) (by omega) (ey.symm.trans ey')
    have e3 := nI_jn (by omega) (by omega) (ez.symm.trans ez')
    have e4 := nI_jn (by omega) (by omega) (ev.symm.trans ev')
    subst e1 e2 e3 e4
    have hb : ∀ j', j' < nw → ∀ q, q < 192 → byt (updS wfc j (upd (wfc j) (fi * 12 + i) (wfc j (fi * 12 + i) ^^^ nI k)) j' q) := fun j' hj' q hq => by
      by_cases e : j' = j
      · rw [e, uS_s]
        unfold upd
        split
        · exact byt_xor (y9 j hj _ (by omega)) hk
        · exact y9 j hj q hq
      · rw [uS_n e]
        exact y9 j' hj' q hq
    have ht2 : ∀ j', j' < nw → tOK (updS wfc j (upd (wfc j) (fi * 12 + i) (wfc j (fi * 12 + i) ^^^ nI k)) j') (wfl j') (updS wtn j tn' j') (wln j') := fun j' hj' => by
      by_cases e : j' = j
      · rw [e, uS_s, uS_s]; exact ht
      · rw [uS_n e, uS_n e]; exact x7 j' hj'
    exact ⟨by rw [e, e'], ad, md, cl, ll, nI 1, wl, sp, co, lr, sh, rem, nw, wst, _, wfl, _, wln, no, op, dc, hX, hY, by omega, jX q1 h18 hd ff, hI, ⟨x1, x2, Or.inr rfl, x4, x5, x6, ht2, x8⟩, h18, q9, hJ, ⟨y1, y2, y3, y4, y5, y6, y7, y8, hb, y10⟩, hd, fun z => absurd z (by decide)⟩
set_option maxHeartbeats 1000000 in
theorem j_split {G : mm_G} {M M1 M2 : mm_M} {ad md : Nat → Nat} {cl ll : Nat} {chg wl sp : Int32} {co lr : Nat → Int32} {sh : Nat → Nat} {rem : Nat → Nat → Int32} {nw : Nat} {wst : Nat → Nat → Nat → Int32} {wfc wfl wtn : Nat → Nat → Int32} {wln : Nat → Nat → Nat} {no : Nat} {op : Nat → OpT} {dc : Nat → Nat} {X Y n : Nat} (hj : jA G M ad md cl ll chg wl sp co lr sh rem nw wst wfc wfl wtn wln no op dc) (hX : ad 0 = X) (hY : md 0 = Y) (hn : no ≤ n) (hn5 : n < 512) {r1 r2 : Int32} {x : Int32} (p1 : (fun r M' => (r = -1 ∧ ¬ ((∃ j, j < nw ∧ x = nI j) ∧ nw < 6) ∧ xA G M' ad cl ll chg wl sp co lr sh rem nw wst wfc wfl wtn wln no op dc ∧ xF ad nw no M M') ∨ ∃ j wd, j < nw ∧ nw < 6 ∧ x = nI j ∧ r = nI nw ∧ (∀ i, i < 15 → M (wd i) = none) ∧ xI (adW ad wd nw) (nw + 1) no ∧ xA G M' (adW ad wd nw) cl ll chg wl sp co lr sh rem (nw + 1) (putW wst nw (cpS (wst j) s0)) (putW wfc nw (va_cpy (wfc j) (fun _ => 0) 0 0 192)) (putW wfl nw (va_cpy (wfl j) (fun _ => 0) 0 0 16)) (putW wtn nw (va_cpy (wtn j) (fun _ => 0) 0 0 1024)) (putW wln nw (wln j)) no op dc ∧ xF ad nw no M M') r1 M1) : yA G M1 md cl ll wl sp co lr sh rem nw wst wfc wln ∧ ((fun r M' => (r = -1 ∧ ¬ ((∃ j, j < nw ∧ x = nI j) ∧ nw < 6) ∧ yA G M' md cl ll wl sp co lr sh rem nw wst wfc wln ∧ mm_fr [md 0, md 3, md 4, md 5, md 6, md 7, md 8, md 9, md 10, md 11, md 12, md 13, md 14, md 15, md 16] M1 M') ∨ ∃ j, j < nw ∧ nw < 6 ∧ x = nI j ∧ r = nI nw ∧ yA G M' md cl ll wl sp co lr sh rem (nw + 1) (putW wst nw (cpS (wst j) s0)) (putW wfc nw (va_cpy (wfc j) (fun _ => 0) 0 0 192)) (putW wln nw (wln j)) ∧ mm_fr [md 0, md 3, md 4, md 5, md 6, md 7, md 8, md 9, md 10, md 11, md 12, md 13, md 14, md 15, md 16] M1 M') r2 M2 → r1 = r2 ∧ jI G M2 X Y (n + 1)) := by
  have hj0 := hj
  obtain ⟨hx, hI, hN, h18, hy, hJ, hyN, hd, hh⟩ := hj
  obtain ⟨x1, x2, x3, x4, x5, x6, x7, x8⟩ := hN
  obtain ⟨y1, y2, y3, y4, y5, y6, y7, y8, y9, y10⟩ := hyN
  have qf : xF ad nw no M M1 := by
    rcases p1 with ⟨_, _, _, z⟩ | ⟨_, _, _, _, _, _, _, _, _, z⟩ <;> exact z
  refine ⟨jY hj0 qf, fun p2 => ?_⟩
  rcases p1 with ⟨e, a, q1, _⟩ | ⟨j, wd, hj, h6, ex, e, hwd, hI', q1, _⟩ <;> rcases p2 with ⟨e', a', q9, ff⟩ | ⟨j', hj', h6', ex', e', q9, ff⟩
  · exact ⟨by rw [e, e'], ⟨ad, md, cl, ll, chg, wl, sp, co, lr, sh, rem, nw, wst, wfc, wfl, wtn, wln, no, op, dc, hX, hY, by omega, jX q1 h18 hd ff, hI, ⟨x1, x2, x3, x4, x5, x6, x7, x8⟩, h18, q9, hJ, ⟨y1, y2, y3, y4, y5, y6, y7, y8, y9, y10⟩, hd, hh⟩⟩
  · exact absurd ⟨⟨j', hj', ex'⟩, h6'⟩ a
  · exact absurd ⟨⟨j, hj, ex⟩, h6⟩ a'
  · have e1 := nI_jn (by omega) (by omega) (ex.symm.trans ex')
    subst e1
    have hd2 : ∀ r k, xD (nw + 1) no r → k < 17 → adW ad wd nw r ≠ md k := fun r k hr hk => by
      by_cases e : 100 + 15 * nw ≤ r ∧ r < 115 + 15 * nw
      · obtain ⟨el, hel⟩ := hy.has k hk
        have hw := hwd (r - (100 + 15 * nw)) (by omega)
        have e2 : adW ad wd nw r = wd (r - (100 + 15 * nw)) := by unfold adW; rw [if_pos e]
        rw [e2]
        intro z
        rw [z, hel] at hw
        cases hw
      · rw [adW_o (by omega)]
        exact hd r k (by unfold xD at hr ⊢; omega) hk
    have h182 : no = 0 → adW ad wd nw 18 = G.2.2.2.2.1 := fun z => by rw [adW_o (by omega)]; exact h18 z
    have z1 : ∀ j', j' < nw + 1 → tOK (putW wfc nw (va_cpy (wfc j) (fun _ => 0) 0 0 192) j') (putW wfl nw (va_cpy (wfl j) (fun _ => 0) 0 0 16) j') (putW wtn nw (va_cpy (wtn j) (fun _ => 0) 0 0 1024) j') (putW wln nw (wln j) j') := fun j' hj' => by
      by_cases e : j' = nw
      · rw [e, putW_s, putW_s, putW_s, putW_s]
        exact tOK_ag (x7 j hj) (fun i hi => by rw [cpy_in (by omega) (by omega), show 0 + (i - 0) = i by omega]) (fun i hi => by rw [cpy_in (by omega) (by omega), show 0 + (i - 0) = i by omega]) (fun i hi => by rw [cpy_in (by omega) (by omega), show 0 + (i - 0) = i by omega])
      · rw [putW_n e, putW_n e, putW_n e, putW_n e]
        exact x7 j' (by omega)
    have z2 : ∀ j', j' < nw + 1 → ∀ x, x < 16 → putW wln nw (wln j) j' x ≤ 12 := fun j' hj' x hx => by
      by_cases e : j' = nw
      · rw [e, putW_s]; exact y6 j hj x hx
      · rw [putW_n e]; exact y6 j' (by omega) x hx
    have hcp : ∀ q, q < 4 → ∀ i, i < 84 → cpS (wst j) s0 q i = wst j q i := fun q hq i hi => by unfold cpS; rw [cpy_in (by omega) (by omega), show 0 + (i - 0) = i by omega]
    have hcf : ∀ x, x < 192 → va_cpy (wfc j) (fun _ => 0) 0 0 192 x = wfc j x := fun x hx => by rw [cpy_in (by omega) (by omega), show 0 + (x - 0) = x by omega]
    have z3 : ∀ j', j' < nw + 1 → ∀ c, c < 4 → ∀ i, i < 84 → byt (putW wst nw (cpS (wst j) s0) j' c i) := fun j' hj' c hc i hi => by
      by_cases e : j' = nw
      · rw [e, putW_s, hcp c hc i hi]; exact y7 j hj c hc i hi
      · rw [putW_n e]; exact y7 j' (by omega) c hc i hi
    have z4 : ∀ j', j' < nw + 1 → ∀ x, x < 192 → byt (putW wfc nw (va_cpy (wfc j) (fun _ => 0) 0 0 192) j' x) := fun j' hj' x hx => by
      by_cases e : j' = nw
      · rw [e, putW_s, hcf x hx]; exact y9 j hj x hx
      · rw [putW_n e]; exact y9 j' (by omega) x hx
    exact ⟨by rw [e, e'], adW ad wd nw, md, cl, ll, chg, wl, sp, co, lr, sh, rem, nw + 1, _, _, _, _, _, no, op, dc, by rw [adW_o (by omega)]; exact hX, hY, by omega, jX q1 h182 hd2 ff, hI', ⟨x1, x2, x3, by omega, by omega, fun c hc => Nat.lt_succ_of_lt (x6 c hc), z1, x8⟩, h182, q9, hJ, ⟨y1, y2, by omega, by omega, fun c hc => Nat.lt_succ_of_lt (y5 c hc), z2, z3, y8, z4, y10⟩, hd2, fun z => hon_split (hh z) hj hcp hcf (y6 j hj)⟩
