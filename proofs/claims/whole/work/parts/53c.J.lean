theorem nst_tn {st : Nat → Nat → Int32} {rc tn tn' : Nat → Int32} {c : Nat} (h : ∀ j, j < 32 → tn (32 + j) = tn' (32 + j)) : nst st rc tn c = nst st rc tn' c := by
  have e : ∀ f : Nat → Int32, va_cpy tn f 32 20 32 = va_cpy tn' f 32 20 32 := fun f => by
    funext i
    by_cases hi : 20 ≤ i ∧ i < 52
    · rw [cpy_in (by omega) (by omega), cpy_in (by omega) (by omega), h _ (by omega)]
    · rw [cpy_out (by omega), cpy_out (by omega)]
  unfold nst sgn
  rw [e]
theorem rt_tn {fc fl tn : Nat → Int32} {ln : Nat → Nat} (h : tOK fc fl tn ln) : ∀ j, j < 32 → rtn fc ln (32 + j) = tn (32 + j) := fun j hj => by rw [rtn_at, tOK_root h j hj]
theorem nst_by {st : Nat → Nat → Int32} {rc tn : Nat → Int32} {c : Nat} (hst : ∀ q, q < 4 → ∀ i, i < 84 → byt (st q i)) (hr : ∀ i, i < 84 → byt (rc i)) (hc : c < 4) (ht : ∀ j, j < 32 → byt (tn (32 + j))) : ∀ i, i < 84 → byt (nst st rc tn c i) := sgn_by ht (fun i hi => by
  rw [← adv_ms (fun k hk => hst _ (gr_lt st) k (by omega)) hc i hi]
  exact adv_by (fun k hk => hst _ (gr_lt st) k (by omega)) (fun k hk => hr k (by omega)) i hi)

set_option maxHeartbeats 1000000 in
theorem j_write {G : mm_G} {M M1 M2 : mm_M} {ad md : Nat → Nat} {cl ll : Nat} {chg wl sp : Int32} {co lr : Nat → Int32} {sh : Nat → Nat} {rem : Nat → Nat → Int32} {nw : Nat} {wst : Nat → Nat → Nat → Int32} {wfc wfl wtn : Nat → Nat → Int32} {wln : Nat → Nat → Nat} {no : Nat} {op : Nat → OpT} {dc : Nat → Nat} {X Y n : Nat} (hj : jA G M ad md cl ll chg wl sp co lr sh rem nw wst wfc wfl wtn wln no op dc) (hX : ad 0 = X) (hY : md 0 = Y) (hn : no ≤ n) (hn5 : n < 512) {r1 r2 : Int32} {x y : Int32} (p1 : (fun r M' => (r = -9 ∧ ¬ ((∃ j, j < 4 ∧ x = nI j) ∧ (∃ j, j < 16 ∧ y = nI j) ∧ cl ≤ 12) ∧ xA G M' ad cl ll chg wl sp co lr sh rem nw wst wfc wfl wtn wln no op dc ∧ xF ad nw no M M') ∨ ∃ c fi j, c < 4 ∧ fi < 16 ∧ j < nw ∧ sh c = j ∧ x = nI c ∧ y = nI fi ∧ cl ≤ 12 ∧ ((∃ k, k ≠ 0 ∧ k ≤ 4 ∧ r = -1 - nI k ∧ fckR (wst j) (rem c) (wtn j) c k ∧ xA G M' ad 0 ll chg wl (sp + nI 1) co lr sh rem nw wst wfc wfl wtn wln no op dc ∧ xF ad nw no M M') ∨ (r = nI 1 ∧ fckR (wst j) (rem c) (wtn j) c 0 ∧ ∃ tn1, tOK (va_cpy co (wfc j) 0 (fi * 12) cl) (upd (wfl j) fi (nI cl)) tn1 (setL (wln j) fi cl) ∧ ∃ an : Nat → Nat, an 0 = ad 0 ∧ xI an nw (no + 1) ∧ (∀ r, xD nw (no + 1) r → (∃ r0, xD nw no r0 ∧ an r = ad r0) ∨ M (an r) = none) ∧ xA G M' an 0 ll chg (wl + nI 1) sp co lr sh (updS rem c (nst (wst j) (rem c) tn1 c)) nw (updW wst j c (va_cpy (nst (wst j) (rem c) tn1 c) (wst j c) 0 0 84)) (updS wfc j (va_cpy co (wfc j) 0 (fi * 12) cl)) (updS wfl j (upd (wfl j) fi (nI cl))) (updS wtn j tn1) (putW wln j (setL (wln j) fi cl)) (no + 1) (opx op no (nI 1, c, dc c + 1, fi, cl, co)) (upN dc c (dc c + 1)) ∧ xF ad nw no M M'))) r1 M1) : yA G M1 md cl ll wl sp co lr sh rem nw wst wfc wln ∧ ((fun r M' => (r = -9 ∧ ¬ ((∃ j, j < 4 ∧ x = nI j) ∧ (∃ j, j < 16 ∧ y = nI j) ∧ cl ≤ 12) ∧ yA G M' md cl ll wl sp co lr sh rem nw wst wfc wln ∧ mm_fr [md 0, md 3, md 4, md 5, md 6, md 7, md 8, md 9, md 10, md 11, md 12, md 13, md 14, md 15, md 16] M1 M') ∨ ∃ c fi j, c < 4 ∧ fi < 16 ∧ j < nw ∧ sh c = j ∧ x = nI c ∧ y = nI fi ∧ cl ≤ 12 ∧ ((∃ k, k ≠ 0 ∧ k ≤ 4 ∧ r = -1 - nI k ∧ fckR (wst j) (rem c) (rtn (wfc j) (wln j)) c k ∧ yA G M' md 0 ll wl (sp + nI 1) co lr sh rem nw wst wfc wln ∧ mm_fr [md 0, md 3, md 4, md 5, md 6, md 7, md 8, md 9, md 10, md 11, md 12, md 13, md 14, md 15, md 16] M1 M') ∨ (r = nI 1 ∧ fckR (wst j) (rem c) (rtn (wfc j) (wln j)) c 0 ∧ yA G M' md 0 ll (wl + nI 1) sp co lr sh (updS rem c (nst (wst j) (rem c) (rtn (va_cpy co (wfc j) 0 (fi * 12) cl) (setL (wln j) fi cl)) c)) nw (updW wst j c (va_cpy (nst (wst j) (rem c) (rtn (va_cpy co (wfc j) 0 (fi * 12) cl) (setL (wln j) fi cl)) c) (wst j c) 0 0 84)) (updS wfc j (va_cpy co (wfc j) 0 (fi * 12) cl)) (putW wln j (setL (wln j) fi cl)) ∧ mm_fr [md 0, md 3, md 4, md 5, md 6, md 7, md 8, md 9, md 10, md 11, md 12, md 13, md 14, md 15, md 16] M1 M'))) r2 M2 → r1 = r2 ∧ jI G M2 X Y (n + 1)) := by
  have hj0 := hj
  obtain ⟨hx, hI, hN, h18, hy, hJ, hyN, hd, hh⟩ := hj
  obtain ⟨x1, x2, x3, x4, x5, x6, x7, x8⟩ := hN
  obtain ⟨y1, y2, y3, y4, y5, y6, y7, y8, y9, y10⟩ := hyN
  have qf : xF ad nw no M M1 := by
    rcases p1 with ⟨_, _, _, z⟩ | ⟨_, _, _, _, _, _, _, _, _, _, ⟨_, _, _, _, _, _, z⟩ | ⟨_, _, _, _, _, _, _, _, _, z⟩⟩
    · exact z
    · exact z
    · exact z
  refine ⟨jY hj0 qf, fun p2 => ?_⟩
  rcases p1 with ⟨e, a, q1, _⟩ | ⟨c, fi, j, hc, hfi, hj, hsh, ex, ey, h12, p1⟩ <;> rcases p2 with ⟨e', a', q9, ff⟩ | ⟨c', fi', j', hc', hfi', hj', hsh', ex', ey', h12', p2⟩
  · exact ⟨by rw [e, e'], ⟨ad, md, cl, ll, chg, wl, sp, co, lr, sh, rem, nw, wst, wfc, wfl, wtn, wln, no, op, dc, hX, hY, by omega, jX q1 h18 hd ff, hI, ⟨x1, x2, x3, x4, x5, x6, x7, x8⟩, h18, q9, hJ, ⟨y1, y2, y3, y4, y5, y6, y7, y8, y9, y10⟩, hd, hh⟩⟩
  · exact absurd ⟨⟨c', hc', ex'⟩, ⟨fi', hfi', ey'⟩, h12'⟩ a
  · exact absurd ⟨⟨c, hc, ex⟩, ⟨fi, hfi, ey⟩, h12⟩ a'
  have e1 := nI_jn (by omega) (by omega) (ex.symm.trans ex')
  have e2 := nI_jn (by omega) (by omega) (ey.symm.trans ey')
  subst e1 e2
  have e3 : j = j' := hsh.symm.trans hsh'
  subst e3
  have rt := rt_tn (x7 j hj)
  have conv : ∀ k, fckR (wst j) (rem c) (rtn (wfc j) (wln j)) c k → fckR (wst j) (rem c) (wtn j) c k := fun k z => fckR_ag (fun _ _ _ _ => rfl) (fun _ _ => rfl) rt hc z
  rcases p1 with ⟨k, hk0, hk4, e, hf, q1, _⟩ | ⟨e, hf, tn1, ht1, an, a0, hI2, han, q1, _⟩ <;> rcases p2 with ⟨k', hk0', hk4', e', hf', q9, ff⟩ | ⟨e', hf', q9, ff⟩
  · have ek := fck_u hf (conv _ hf')
    subst ek
    exact ⟨by rw [e, e'], ad, md, 0, ll, chg, wl, sp + nI 1, co, lr, sh, rem, nw, wst, wfc, wfl, wtn, wln, no, op, dc, hX, hY, by omega, jX q1 h18 hd ff, hI, ⟨by omega, x2, x3, x4, x5, x6, x7, x8⟩, h18, q9, hJ, ⟨by omega, y2, y3, y4, y5, y6, y7, y8, y9, fun i hi => absurd hi (Nat.not_lt_zero i)⟩, hd, hh⟩
  · exact absurd (fck_u hf (conv _ hf')) hk0
  · exact absurd (fck_u hf (conv _ hf')).symm hk0'
  · have hfi2 := fck_in hf
    have hd2 : ∀ r k, xD nw (no + 1) r → k < 17 → an r ≠ md k := fun r k hr hk => by
      obtain ⟨el, hel⟩ := hy.has k hk
      rcases han r hr with ⟨r0, h1, h2⟩ | h1
      · rw [h2]; exact hd r0 k h1 hk
      · intro z
        rw [z, hel] at h1
        cases h1
    have rt1 := rt_tn ht1
    rw [nst_tn rt1] at q9
    have hbt : ∀ j', j' < 32 → byt (tn1 (32 + j')) := fun j' hj' => by rw [← rt1 j' hj', rtn_at]; exact byt_root _ _ _
    have hnb : ∀ i, i < 84 → byt ((nst (wst j) (rem c) tn1 c) i) := nst_by (y7 j hj) (y8 c hc) hc hbt
    have z8 : ∀ c', c' < 4 → ∀ i, i < 84 → byt (updS rem c (nst (wst j) (rem c) tn1 c) c' i) := fun c' hc' i hi => by
      by_cases e : c' = c
      · rw [e, uS_s]; exact hnb i hi
      · rw [uS_n e]; exact y8 c' hc' i hi
    have z7 : ∀ j', j' < nw → ∀ c', c' < 4 → ∀ i, i < 84 → byt (updW wst j c (va_cpy (nst (wst j) (rem c) tn1 c) (wst j c) 0 0 84) j' c' i) := fun j' hj' c' hc' i hi => by
      by_cases e : j' = j ∧ c' = c
      · rw [e.1, e.2, uW_s, cpy_in (by omega) (by omega)]; exact hnb _ (by omega)
      · rw [uW_n (by omega)]; exact y7 j' hj' c' hc' i hi
    have hgb : b20 (wst j (gr (wst j))) := fun i hi => y7 j hj _ (gr_lt _) i (by omega)
    have z9 : ∀ j', j' < nw → ∀ x, x < 192 → byt (updS wfc j (va_cpy co (wfc j) 0 (fi * 12) cl) j' x) := fun j' hj' x hx => by
      by_cases e : j' = j
      · rw [e, uS_s]
        by_cases e2 : fi * 12 ≤ x ∧ x < fi * 12 + cl
        · rw [cpy_in (by omega) (by omega)]; exact y10 _ (by omega)
        · rw [cpy_out (by omega)]; exact y9 j hj x hx
      · rw [uS_n e]; exact y9 j' hj' x hx
    have zt : ∀ j', j' < nw → tOK (updS wfc j (va_cpy co (wfc j) 0 (fi * 12) cl) j') (updS wfl j (upd (wfl j) fi (nI cl)) j') (updS wtn j tn1 j') (putW wln j (setL (wln j) fi cl) j') := fun j' hj' => by
      by_cases e : j' = j
      · rw [e, uS_s, uS_s, uS_s, putW_s]; exact ht1
      · rw [uS_n e, uS_n e, uS_n e, putW_n e]; exact x7 j' hj'
    have z6 : ∀ j', j' < nw → ∀ x, x < 16 → putW wln j (setL (wln j) fi cl) j' x ≤ 12 := fun j' hj' x hx => by
      by_cases e : j' = j
      · rw [e, putW_s]
        by_cases e2 : x = fi
        · rw [e2, setL_s]; exact h12
        · rw [setL_n e2]; exact y6 j hj x hx
      · rw [putW_n e]; exact y6 j' hj' x hx
    have h180 : no + 1 = 0 → an 18 = G.2.2.2.2.1 := fun z => absurd z (by omega)
    exact ⟨by rw [e, e'], an, md, 0, ll, chg, wl + nI 1, sp, co, lr, sh, _, nw, _, _, _, _, _, no + 1, _, _, by rw [a0]; exact hX, hY, by omega, jX q1 h180 hd2 ff, hI2, ⟨by omega, x2, x3, x4, x5, x6, zt, by omega⟩, h180, q9, hJ, ⟨by omega, x2, y3, y4, y5, z6, z7, z8, z9, fun i hi => absurd hi (Nat.not_lt_zero i)⟩, hd2, (fun z => hon_app (hh z) hc hj hfi2.2.2.1 hfi2.2.1 (fun q hq i hi => y7 j hj q hq i (by omega)) rfl rfl (fun k hk => nv_nst hgb hk (by have := (hh z).1.2.2.2.1 j hj _ (gr_lt (wst j)) k hk; have := (hh z).1.2.2.2.2 k hk; omega)) (fun i hi => by rw [cpy_in (by omega) (by omega), show 0 + (i - 0) = i by omega]) (HF_write hfi (y6 j hj) h12))⟩
set_option maxHeartbeats 1000000 in
theorem j_read {G : mm_G} {M M1 M2 : mm_M} {ad md : Nat → Nat} {cl ll : Nat} {chg wl sp : Int32} {co lr : Nat → Int32} {sh : Nat → Nat} {rem : Nat → Nat → Int32} {nw : Nat} {wst : Nat → Nat → Nat → Int32} {wfc wfl wtn : Nat → Nat → Int32} {wln : Nat → Nat → Nat} {no : Nat} {op : Nat → OpT} {dc : Nat → Nat} {X Y n : Nat} (hj : jA G M ad md cl ll chg wl sp co lr sh rem nw wst wfc wfl wtn wln no op dc) (hX : ad 0 = X) (hY : md 0 = Y) (hn : no ≤ n) (hn5 : n < 512) {r1 r2 : Int32} {x y : Int32} (p1 : (fun r M' => (r = -9 ∧ ¬ ((∃ j, j < 4 ∧ x = nI j) ∧ (∃ j, j < 16 ∧ y = nI j)) ∧ xA G M' ad cl ll chg wl sp co lr sh rem nw wst wfc wfl wtn wln no op dc ∧ xF ad nw no M M') ∨ ∃ c fi j, c < 4 ∧ fi < 16 ∧ j < nw ∧ sh c = j ∧ x = nI c ∧ y = nI fi ∧ ((∃ k, k ≠ 0 ∧ k ≤ 4 ∧ r = -1 - nI k ∧ fckR (wst j) (rem c) (wtn j) c k ∧ xA G M' ad cl ll chg wl (sp + nI 1) co lr sh rem nw wst wfc wfl wtn wln no op dc ∧ xF ad nw no M M') ∨ (r = nI (wln j fi) ∧ fckR (wst j) (rem c) (wtn j) c 0 ∧ ∃ an : Nat → Nat, an 0 = ad 0 ∧ xI an nw (no + 1) ∧ (∀ r, xD nw (no + 1) r → (∃ r0, xD nw no r0 ∧ an r = ad r0) ∨ M (an r) = none) ∧ xA G M' an cl (wln j fi) chg (wl + nI 1) sp co (va_cpy (wfc j) lr (fi * 12) 0 (wln j fi)) sh (updS rem c (nst (wst j) (rem c) (wtn j) c)) nw (updW wst j c (va_cpy (nst (wst j) (rem c) (wtn j) c) (wst j c) 0 0 84)) wfc wfl wtn wln (no + 1) (opx op no (nI 0, c, dc c + 1, fi, wln j fi, va_cpy (wfc j) lr (fi * 12) 0 (wln j fi))) (upN dc c (dc c + 1)) ∧ xF ad nw no M M'))) r1 M1) : yA G M1 md cl ll wl sp co lr sh rem nw wst wfc wln ∧ ((fun r M' => (r = -9 ∧ ¬ ((∃ j, j < 4 ∧ x = nI j) ∧ (∃ j, j < 16 ∧ y = nI j)) ∧ yA G M' md cl ll wl sp co lr sh rem nw wst wfc wln ∧ mm_fr [md 0, md 3, md 4, md 5, md 6, md 7, md 8, md 9, md 10, md 11, md 12, md 13, md 14, md 15, md 16] M1 M') ∨ ∃ c fi j, c < 4 ∧ fi < 16 ∧ j < nw ∧ sh c = j ∧ x = nI c ∧ y = nI fi ∧ ((∃ k, k ≠ 0 ∧ k ≤ 4 ∧ r = -1 - nI k ∧ fckR (wst j) (rem c) (rtn (wfc j) (wln j)) c k ∧ yA G M' md cl ll wl (sp + nI 1) co lr sh rem nw wst wfc wln ∧ mm_fr [md 0, md 3, md 4, md 5, md 6, md 7, md 8, md 9, md 10, md 11, md 12, md 13, md 14, md 15, md 16] M1 M') ∨ (r = nI (wln j fi) ∧ fckR (wst j) (rem c) (rtn (wfc j) (wln j)) c 0 ∧ yA G M' md cl (wln j fi) (wl + nI 1) sp co (va_cpy (wfc j) lr (fi * 12) 0 (wln j fi)) sh (updS rem c (nst (wst j) (rem c) (rtn (wfc j) (wln j)) c)) nw (updW wst j c (va_cpy (nst (wst j) (rem c) (rtn (wfc j) (wln j)) c) (wst j c) 0 0 84)) wfc wln ∧ mm_fr [md 0, md 3, md 4, md 5, md 6, md 7, md 8, md 9, md 10, md 11, md 12, md 13, md 14, md 15, md 16] M1 M'))) r2 M2 → r1 = r2 ∧ jI G M2 X Y (n + 1)) := by
  have hj0 := hj
  obtain ⟨hx, hI, hN, h18, hy, hJ, hyN, hd, hh⟩ := hj
  obtain ⟨x1, x2, x3, x4, x5, x6, x7, x8⟩ := hN
  obtain ⟨y1, y2, y3, y4, y5, y6, y7, y8, y9, y10⟩ := hyN
  have qf : xF ad nw no M M1 := by
    rcases p1 with ⟨_, _, _, z⟩ | ⟨_, _, _, _, _, _, _, _, _, ⟨_, _, _, _, _, _, z⟩ | ⟨_, _, _, _, _, _, _, z⟩⟩
    · exact z
    · exact z
    · exact z
  refine ⟨jY hj0 qf, fun p2 => ?_⟩
  rcases p1 with ⟨e, a, q1, _⟩ | ⟨c, fi, j, hc, hfi, hj, hsh, ex, ey, p1⟩ <;> rcases p2 with ⟨e', a', q9, ff⟩ | ⟨c', fi', j', hc', hfi', hj', hsh', ex', ey', p2⟩
  · exact ⟨by rw [e, e'], ⟨ad, md, cl, ll, chg, wl, sp, co, lr, sh, rem, nw, wst, wfc, wfl, wtn, wln, no, op, dc, hX, hY, by omega, jX q1 h18 hd ff, hI, ⟨x1, x2, x3, x4, x5, x6, x7, x8⟩, h18, q9, hJ, ⟨y1, y2, y3, y4, y5, y6, y7, y8, y9, y10⟩, hd, hh⟩⟩
  · exact absurd ⟨⟨c', hc', ex'⟩, ⟨fi', hfi', ey'⟩⟩ a
  · exact absurd ⟨⟨c, hc, ex⟩, ⟨fi, hfi, ey⟩⟩ a'
  have e1 := nI_jn (by omega) (by omega) (ex.symm.trans ex')
  have e2 := nI_jn (by omega) (by omega) (ey.symm.trans ey')
  subst e1 e2
  have e3 : j = j' := hsh.symm.trans hsh'
  subst e3
  have rt := rt_tn (x7 j hj)
  have conv : ∀ k, fckR (wst j) (rem c) (rtn (wfc j) (wln j)) c k → fckR (wst j) (rem c) (wtn j) c k := fun k z => fckR_ag (fun _ _ _ _ => rfl) (fun _ _ => rfl) rt hc z
  rcases p1 with ⟨k, hk0, hk4, e, hf, q1, _⟩ | ⟨e, hf, an, a0, hI2, han, q1, _⟩ <;> rcases p2 with ⟨k', hk0', hk4', e', hf', q9, ff⟩ | ⟨e', hf', q9, ff⟩
  · have ek := fck_u hf (conv _ hf')
    subst ek
    exact ⟨by rw [e, e'], ad, md, cl, ll, chg, wl, sp + nI 1, co, lr, sh, rem, nw, wst, wfc, wfl, wtn, wln, no, op, dc, hX, hY, by omega, jX q1 h18 hd ff, hI, ⟨x1, x2, x3, x4, x5, x6, x7, x8⟩, h18, q9, hJ, ⟨y1, y2, y3, y4, y5, y6, y7, y8, y9, y10⟩, hd, hh⟩
  · exact absurd (fck_u hf (conv _ hf')) hk0
  · exact absurd (fck_u hf (conv _ hf')).symm hk0'
  · have hfi2 := fck_in hf
    have hd2 : ∀ r k, xD nw (no + 1) r → k < 17 → an r ≠ md k := fun r k hr hk => by
      obtain ⟨el, hel⟩ := hy.has k hk
      rcases han r hr with ⟨r0, h1, h2⟩ | h1
      · rw [h2]; exact hd r0 k h1 hk
      · intro z
        rw [z, hel] at h1
        cases h1
    rw [nst_tn rt] at q9
    have hbt : ∀ j', j' < 32 → byt (wtn j (32 + j')) := fun j' hj' => by rw [← rt j' hj', rtn_at]; exact byt_root _ _ _
    have hnb : ∀ i, i < 84 → byt ((nst (wst j) (rem c) (wtn j) c) i) := nst_by (y7 j hj) (y8 c hc) hc hbt
    have z8 : ∀ c', c' < 4 → ∀ i, i < 84 → byt (updS rem c (nst (wst j) (rem c) (wtn j) c) c' i) := fun c' hc' i hi => by
      by_cases e : c' = c
      · rw [e, uS_s]; exact hnb i hi
      · rw [uS_n e]; exact y8 c' hc' i hi
    have z7 : ∀ j', j' < nw → ∀ c', c' < 4 → ∀ i, i < 84 → byt (updW wst j c (va_cpy (nst (wst j) (rem c) (wtn j) c) (wst j c) 0 0 84) j' c' i) := fun j' hj' c' hc' i hi => by
      by_cases e : j' = j ∧ c' = c
      · rw [e.1, e.2, uW_s, cpy_in (by omega) (by omega)]; exact hnb _ (by omega)
      · rw [uW_n (by omega)]; exact y7 j' hj' c' hc' i hi
    have hgb : b20 (wst j (gr (wst j))) := fun i hi => y7 j hj _ (gr_lt _) i (by omega)
    have h180 : no + 1 = 0 → an 18 = G.2.2.2.2.1 := fun z => absurd z (by omega)
    have hl12 := y6 j hj fi hfi
    exact ⟨by rw [e, e'], an, md, cl, wln j fi, chg, wl + nI 1, sp, co, _, sh, _, nw, _, _, _, _, _, no + 1, _, _, by rw [a0]; exact hX, hY, by omega, jX q1 h180 hd2 ff, hI2, ⟨x1, hl12, x3, x4, x5, x6, x7, by omega⟩, h180, q9, hJ, ⟨y1, hl12, y3, y4, y5, y6, z7, z8, y9, y10⟩, hd2, (fun z => by
      have w := hon_app (o := (nI 0, c, dc c + 1, fi, wln j fi, (va_cpy (wfc j) lr (fi * 12) 0 (wln j fi)))) (f' := (nst (wst j) (rem c) (wtn j) c)) (g' := va_cpy (nst (wst j) (rem c) (wtn j) c) (wst j c) 0 0 84) (fc' := wfc j) (ln' := wln j) (hh z) hc hj hfi2.2.2.1 hfi2.2.1 (fun q hq i hi => y7 j hj q hq i (by omega)) rfl rfl (fun k hk => nv_nst hgb hk (by have := (hh z).1.2.2.2.1 j hj _ (gr_lt (wst j)) k hk; have := (hh z).1.2.2.2.2 k hk; omega)) (fun i hi => by rw [cpy_in (by omega) (by omega), show 0 + (i - 0) = i by omega]) (HF_read hfi (fun k hk => by rw [cpy_in (by omega) (by omega), show k - 0 = k by omega]))
      rw [updS_id, putW_id] at w
      exact w)⟩
