/-- the same cells under another function of the numbers -/
theorem xA.ext {G : mm_G} {M : mm_M} {ad : Nat → Nat} {cl ll : Nat} {chg wl sp : Int32} {co lr : Nat → Int32} {sh : Nat → Nat} {rem : Nat → Nat → Int32} {nw : Nat} {wst : Nat → Nat → Nat → Int32} {wfc wfl wtn : Nat → Nat → Int32} {wln : Nat → Nat → Nat} {no : Nat} {op : Nat → OpT} {dc : Nat → Nat} {ad2 : Nat → Nat} (h : xA G M ad cl ll chg wl sp co lr sh rem nw wst wfc wfl wtn wln no op dc) (he : ∀ r, xD nw no r → ad2 r = ad r) (h18 : ad2 18 = ad 18) : xA G M ad2 cl ll chg wl sp co lr sh rem nw wst wfc wfl wtn wln no op dc := by
  have k : ∀ r, r < 32 → r ≠ 23 → ad2 r = ad r := fun r hr hn => by
    by_cases e : r = 18
    · rw [e]; exact h18
    · exact he r (by unfold xD; omega)
  obtain ⟨h0, h1, h2, h3, h4, h5, h6, h7, h8, h9, h10, h11, h12, h13, h14⟩ := h
  have hw : ∀ j, j < nw → xW ad2 j = fun i => if i < 15 then xW ad j i else ad2 (100 + 15 * j + i) := fun j hj => by
    funext i
    by_cases hi : i < 15
    · rw [if_pos hi]
      exact he _ (by unfold xD; omega)
    · rw [if_neg hi]
      rfl
  unfold xA
  rw [k 0 (by omega) (by omega), k 1 (by omega) (by omega), k 2 (by omega) (by omega), k 3 (by omega) (by omega), k 4 (by omega) (by omega), k 5 (by omega) (by omega), k 6 (by omega) (by omega), k 7 (by omega) (by omega), k 8 (by omega) (by omega), k 9 (by omega) (by omega), k 10 (by omega) (by omega), k 11 (by omega) (by omega), k 12 (by omega) (by omega), k 13 (by omega) (by omega), k 14 (by omega) (by omega), k 15 (by omega) (by omega), k 16 (by omega) (by omega), k 17 (by omega) (by omega), k 18 (by omega) (by omega), k 19 (by omega) (by omega), k 20 (by omega) (by omega), k 21 (by omega) (by omega), k 22 (by omega) (by omega)]
  refine ⟨h0, h1, h2, h3, ?_, ?_, fun c hc => ?_, h7, h8, h9, h10, ?_, h12, h13, fun j hj => ?_⟩
  · obtain ⟨mc, f, a, b, d⟩ := h4
    exact ⟨mc, f, a, b, fun j hj => by rw [hw j hj]; exact d j hj⟩
  · obtain ⟨rf, a, b⟩ := h5
    exact ⟨rf, a, fun c hc => by rw [k _ (by omega) (by omega)]; exact b c hc⟩
  · rw [k _ (by omega) (by omega), k (25 + 2 * c) (by omega) (by omega)]
    exact h6 c hc
  · obtain ⟨a, b, d⟩ := h11
    refine ⟨a, ?_, fun i hi => ?_⟩
    · rcases b with b | ⟨cap, f, b1, b2, b3, b4, b5⟩
      · exact Or.inl b
      · exact Or.inr ⟨cap, f, b1, b2, b3, b4, fun i hi => by show f i = some (ad2 (1000 + 2 * i)); rw [he _ (by unfold xD; omega)]; exact b5 i hi⟩
    · show opAt G M (ad2 (1000 + 2 * i)) (ad2 (1001 + 2 * i)) (op i)
      rw [he _ (by unfold xD; omega), he (1001 + 2 * i) (by unfold xD; omega)]
      exact d i hi
  · obtain ⟨w0, ⟨tf, w1, w1b⟩, ws, w2, w3, w4, w5, w6⟩ := h14 j hj
    have e : ∀ i, i < 15 → xW ad2 j i = xW ad j i := fun i hi => he _ (by unfold xD; omega)
    unfold woA
    rw [e 0 (by omega), e 1 (by omega), e 2 (by omega), e 3 (by omega), e 4 (by omega), e 5 (by omega), e 6 (by omega)]
    exact ⟨w0, ⟨tf, w1, fun c hc => by rw [e _ (by omega)]; exact w1b c hc⟩, fun c hc => by rw [e _ (by omega), e (8 + 2 * c) (by omega)]; exact ws c hc, w2, w3, w4, w5, w6⟩
/-- what the copy of a row keeps -/
theorem cp_in {f g : Nat → Int32} {n i : Nat} (h : i < n) : va_cpy f g 0 0 n i = f i := by
  unfold va_cpy
  rw [if_pos (by omega)]
  congr 1
  omega
theorem tOK_ag {fc fl tn fc' fl' tn' : Nat → Int32} {ln : Nat → Nat} (h : tOK fc fl tn ln) (h1 : ∀ i, i < 192 → fc' i = fc i) (h2 : ∀ i, i < 16 → fl' i = fl i) (h3 : ∀ i, i < 1024 → tn' i = tn i) : tOK fc' fl' tn' ln := by
  refine ⟨fun x hx => by rw [h2 x hx]; exact h.1 x hx, fun f hf _ j hj => ?_, fun n g1 g2 _ j hj => ?_⟩
  · rw [h3 _ (by omega), h.2.1 f hf trivial j hj]
    exact congrFun (leafd_ag (fun k hk => (h1 _ (by have := (h.1 f hf).2; omega)).symm)) j
  · rw [h3 _ (by omega), h.2.2 n g1 g2 trivial j hj]
    exact congrFun (noded_ag (fun k hk => (h3 _ (by omega)).symm)) j
/-- one world more -/
def adW (ad wd : Nat → Nat) (nw : Nat) : Nat → Nat := fun r => if 100 + 15 * nw ≤ r ∧ r < 115 + 15 * nw then wd (r - (100 + 15 * nw)) else ad r
theorem adW_o {ad wd : Nat → Nat} {nw r : Nat} (h : r < 100 + 15 * nw ∨ 115 + 15 * nw ≤ r) : adW ad wd nw r = ad r := if_neg (by omega)
theorem adW_w {ad wd : Nat → Nat} {nw i : Nat} (h : i < 15) : adW ad wd nw (100 + 15 * nw + i) = wd i := by
  unfold adW
  rw [if_pos (by omega), show 100 + 15 * nw + i - (100 + 15 * nw) = i by omega]
theorem adW_I {ad wd : Nat → Nat} {nw no : Nat} (h6 : nw < 6) (hI : xI ad nw no) (hw : woI wd) (hn : ∀ r, xD nw no r → ∀ i, i < 15 → ad r ≠ wd i) : xI (adW ad wd nw) (nw + 1) no := by
  intro r r' hr hr' e
  have cas : ∀ z, xD (nw + 1) no z → (xD nw no z ∧ adW ad wd nw z = ad z) ∨ ∃ i, i < 15 ∧ z = 100 + 15 * nw + i := fun z hz => by
    unfold xD at hz
    by_cases q : 100 + 15 * nw ≤ z ∧ z < 115 + 15 * nw
    · exact Or.inr ⟨z - (100 + 15 * nw), by omega, by omega⟩
    · exact Or.inl ⟨by unfold xD; omega, adW_o (by omega)⟩
  rcases cas r hr with ⟨a, b⟩ | ⟨i, a, b⟩ <;> rcases cas r' hr' with ⟨a', b'⟩ | ⟨i', a', b'⟩
  · rw [b, b'] at e; exact hI r r' a a' e
  · rw [b, b', adW_w a'] at e; exact absurd e (hn r a i' a')
  · rw [b, b', adW_w a] at e; exact absurd e.symm (hn r' a' i a)
  · rw [b, b', adW_w a, adW_w a'] at e
    have := hw i i' a a' e
    omega
def cpS (st st0 : Nat → Nat → Int32) : Nat → Nat → Int32 := fun c => va_cpy (st c) (st0 c) 0 0 84
def putW {α : Type} (w : Nat → α) (n : Nat) (x : α) : Nat → α := fun k => if k = n then x else w k
theorem putW_s {α : Type} {w : Nat → α} {n : Nat} {x : α} : putW w n x n = x := if_pos rfl
theorem putW_n {α : Type} {w : Nat → α} {n k : Nat} {x : α} (h : k ≠ n) : putW w n x k = w k := if_neg h
