theorem opx_C {op : Nat → OpT} {no k : Nat} {o : OpT} (h : k < no) : opC (opx op no o) k = opC op k := by unfold opC; rw [opx_n h]
theorem opx_N {op : Nat → OpT} {no k : Nat} {o : OpT} (h : k < no) : opN (opx op no o) k = opN op k := by unfold opN; rw [opx_n h]
theorem cN_x {f : Nat → Int32} {op : Nat → OpT} {no k : Nat} {o : OpT} (h : k < no) : cN f (opx op no o) k ↔ cN f op k := by unfold cN; rw [opx_C h, opx_N h]
theorem cN_s {f : Nat → Int32} {op : Nat → OpT} {no : Nat} {o : OpT} : cN f (opx op no o) no ↔ o.2.2.1 ≤ nv f o.2.1 := by unfold cN opC opN; rw [opx_s]
theorem upN_s {f : Nat → Nat} {c j : Nat} : upN f c j c = j := if_pos rfl
theorem upN_n {f : Nat → Nat} {c j k : Nat} (h : k ≠ c) : upN f c j k = f k := if_neg h
noncomputable def opi (o : OpT) (s : (Nat → Int32) × (Nat → Int32)) : (Nat → Int32) × (Nat → Int32) := @ite _ (o.1 = 1) (Classical.propDecidable _) (ops o s) s
set_option maxHeartbeats 1000000 in
/-- one operation more, in world j -/
theorem hon_app {no : Nat} {op : Nat → OpT} {dc : Nat → Nat} {rem : Nat → Nat → Int32} {nw : Nat} {wst : Nat → Nat → Nat → Int32} {wfc : Nat → Nat → Int32} {wln : Nat → Nat → Nat} (h : hon no op dc rem nw wst wfc wln) {c j : Nat} (hc : c < 4) (hj : j < nw) (hin : inl (wst j)) (h2 : ∀ i, i < 84 → wst j c i = rem c i) (hb : ∀ q, q < 4 → b20 (wst j q)) {o : OpT} (ho1 : o.2.1 = c) (ho2 : o.2.2.1 = dc c + 1) {f' g' fc' : Nat → Int32} {ln' : Nat → Nat} (hf : ∀ k, k < 4 → nv f' k = nv (wst j (gr (wst j))) k + (if k = c then 1 else 0)) (hg : ∀ i, i < 20 → g' i = f' i) (HF : ∀ s, fits (wfc j) (wln j) s → fits fc' ln' (opi o s) ∧ hold (opi o s) o) :
    hon (no + 1) (opx op no o) (upN dc c (dc c + 1)) (updS rem c f') nw (updW wst j c g') (updS wfc j fc') (putW wln j ln') := by
  obtain ⟨⟨a1, a2, a3, a4, a5⟩, In, U, ⟨b1, b2, b3, b4, b5⟩, hC, d1, d2⟩ := h
  have hg4 := gr_lt (wst j)
  have top : ∀ q, q < 4 → ∀ k, k < 4 → nv (wst j q) k ≤ nv (wst j (gr (wst j))) k := fun q hq k hk => (na_nv (hb q hq) (hb _ hg4)).mp (gr_top hin 3 (by decide) q (by omega)) k hk
  obtain ⟨g, eg⟩ : ∃ g, g = gr (wst j) := ⟨_, rfl⟩
  rw [← eg] at hg4 top hf
  have key1 : ∀ k, k < no → (cN (wst j g) op k ↔ In j k) := fun k hk => ⟨b2 j hj g hg4 k hk, fun z => Nat.le_trans (b3 j hj k z) (top _ (a1 k hk).1 _ (a1 k hk).1)⟩
  have own : nv (wst j g) c = dc c := by
    have e1 := a4 j hj g hg4 c hc
    have e2 := top c hc c hc
    rw [nv_ag (fun i hi => h2 i (by omega)) hc, a2 c hc] at e2
    omega
  have hfc : nv f' c = dc c + 1 := by rw [hf c hc, own, if_pos rfl]
  have hfn : ∀ k, k < 4 → k ≠ c → nv f' k = nv (wst j g) k := fun k hk hn => by rw [hf k hk, if_neg hn, Nat.add_zero]
  have key2 : ∀ k, k < no → (cN f' op k ↔ In j k) := fun k hk => by
    by_cases e : opC op k = c
    · have e1 := (a1 k hk).2
      rw [e] at e1
      have e2 : In j k := (key1 k hk).mp (by unfold cN; rw [e, own]; exact e1)
      exact ⟨fun _ => e2, fun _ => by unfold cN; rw [e, hfc]; omega⟩
    · rw [← key1 k hk]
      unfold cN
      rw [hfn _ (a1 k hk).1 e]
  have new : cN f' (opx op no o) no := by rw [cN_s, ho1, ho2, hfc]; exact Nat.le_refl _
  have old : ∀ f : Nat → Int32, nv f c ≤ dc c → ¬ cN f (opx op no o) no := fun f hl z => by rw [cN_s, ho1, ho2] at z; omega
  have hgn : ∀ k, k < 4 → nv g' k = nv f' k := fun k hk => nv_ag hg hk
  have hgc : ∀ k, opC (opx op no o) k < 4 → (cN g' (opx op no o) k ↔ cN f' (opx op no o) k) := fun k hk => by unfold cN; rw [hgn _ hk]
  have oC : opC (opx op no o) no = c := by unfold opC; rw [opx_s, ho1]
  have oC4 : ∀ k, k < no + 1 → opC (opx op no o) k < 4 := fun k hk => by
    by_cases e : k = no
    · rw [e, oC]; exact hc
    · rw [opx_C (by omega)]; exact (a1 k (by omega)).1
  have dcl : ∀ k, dc k ≤ upN dc c (dc c + 1) k := fun k => by
    by_cases e : k = c
    · rw [e, upN_s]; omega
    · rw [upN_n e]; exact Nat.le_refl _
  refine ⟨⟨fun k hk => ⟨oC4 k hk, ?_⟩, fun c' hc' => ?_, fun q hq k hk => ?_, fun j' hj' q hq k hk => ?_, fun c' hc' => ?_⟩, (fun j' k => In j' k ∨ (j' = j ∧ k = no)), (fun i k => (i ≠ no ∧ U i k) ∨ (i = no ∧ (In j k ∨ k = no))), ⟨fun j' hj' k hk => ?_, fun j' hj' q hq k hk z => ?_, fun j' hj' k z => ?_, fun j' hj' i hi k hk => ?_, fun L hL => ?_⟩, fun c' hc' => ?_, fun i hi fc fl hz => ?_, fun j' hj' fc fl hz => ?_⟩
  · by_cases e : k = no
    · subst e
      rw [oC, upN_s]
      unfold opN
      rw [opx_s, ho2]
      exact Nat.le_refl _
    · rw [opx_C (by omega), opx_N (by omega)]
      exact Nat.le_trans (a1 k (by omega)).2 (dcl _)
  · by_cases e : c' = c
    · rw [e, uS_s, upN_s, hfc]
    · rw [uS_n e, upN_n e, a2 c' hc']
  · by_cases e : q = c
    · rw [e, uS_s]
      by_cases e2 : k = c
      · rw [e2, upN_s, hfc]; exact Nat.le_refl _
      · rw [upN_n e2, hfn k hk e2]; exact a4 j hj g hg4 k hk
    · rw [uS_n e]; exact Nat.le_trans (a3 q hq k hk) (dcl _)
  · by_cases e : j' = j ∧ q = c
    · rw [e.1, e.2, uW_s, hgn k hk]
      by_cases e2 : k = c
      · rw [e2, upN_s, hfc]; exact Nat.le_refl _
      · rw [upN_n e2, hfn k hk e2]; exact a4 j hj g hg4 k hk
    · rw [uW_n (by omega)]; exact Nat.le_trans (a4 j' hj' q hq k hk) (dcl _)
  · by_cases e : c' = c
    · rw [e, upN_s]; have := a5 c hc; omega
    · rw [upN_n e]; have := a5 c' hc'; omega
  · rcases hk with hk | hk
    · have := b1 j' hj' k hk; omega
    · omega
  · by_cases e : j' = j ∧ q = c
    · rw [e.1, e.2, uW_s, hgc k (oC4 k hk)] at z
      by_cases e2 : k = no
      · exact Or.inr ⟨e.1, e2⟩
      · rw [cN_x (by omega)] at z
        rw [e.1]
        exact Or.inl ((key2 k (by omega)).mp z)
    · rw [uW_n (by omega)] at z
      by_cases e2 : k = no
      · rw [e2] at z
        exact absurd z (old _ (a4 j' hj' q hq c hc))
      · rw [cN_x (by omega)] at z
        exact Or.inl (b2 j' hj' q hq k (by omega) z)
  · rcases z with z | ⟨z1, z2⟩
    · have hk := b1 j' hj' k z
      rw [opx_C hk, cN_x hk]
      by_cases e : j' = j ∧ opC op k = c
      · rw [e.1, e.2, uW_s]
        have y : cN f' op k := (key2 k hk).mpr (by rw [← e.1]; exact z)
        unfold cN at y ⊢
        rw [hgn _ (a1 k hk).1]
        exact y
      · rw [uW_n (by omega)]
        exact b3 j' hj' k z
    · rw [z1, z2, oC, uW_s, hgc no (oC4 no (by omega))]
      exact new
  · rcases hi with hi | ⟨hi1, hi2⟩
    · have hi' := b1 j' hj' i hi
      have e := b4 j' hj' i hi k hk
      constructor
      · rintro (z | z)
        · exact Or.inl ⟨by omega, e.mp z⟩
        · omega
      · rintro (z | z)
        · exact Or.inl (e.mpr z.2)
        · omega
    · constructor
      · rintro (z | z)
        · exact Or.inr ⟨hi2, Or.inl (by rw [← hi1]; exact z)⟩
        · exact Or.inr ⟨hi2, Or.inr z.2⟩
      · rintro (z | ⟨-, z | z⟩)
        · exact absurd hi2 z.1
        · exact Or.inl (by rw [hi1]; exact z)
        · exact Or.inr ⟨hi1, z⟩
  · by_cases e : L = no
    · subst e
      refine ⟨Or.inr ⟨rfl, Or.inr rfl⟩, fun i hi => ?_⟩
      rcases hi with ⟨z, _⟩ | ⟨-, hi | hi⟩
      · exact absurd rfl z
      · have hi' := b1 j hj i hi
        refine ⟨by omega, fun k hk => ?_⟩
        have e := b4 j hj i hi k hk
        constructor
        · rintro (⟨z, _⟩ | ⟨-, z | z⟩)
          · exact absurd rfl z
          · exact Or.inl ⟨by omega, e.mp z⟩
          · omega
        · rintro (z | z)
          · exact Or.inr ⟨rfl, Or.inl (e.mpr z.2)⟩
          · omega
      · subst hi
        exact ⟨Nat.le_refl _, fun k _ => Iff.rfl⟩
    · have hL' : L < no := by omega
      refine ⟨Or.inl ⟨e, (b5 L hL').1⟩, fun i hi => ?_⟩
      rcases hi with ⟨-, hi⟩ | ⟨z, _⟩
      · have y := (b5 L hL').2 i hi
        refine ⟨y.1, fun k hk => ?_⟩
        have e3 := y.2 k hk
        have y1 := y.1
        constructor
        · rintro (z | z)
          · exact Or.inl ⟨by omega, e3.mp z.2⟩
          · exact absurd z.1 e
        · rintro (z | z)
          · exact Or.inl ⟨e, e3.mpr z.2⟩
          · omega
      · exact absurd z e
  · by_cases e : c' = c
    · right
      refine ⟨no, by omega, by rw [e]; exact oC, fun k hk => ?_⟩
      rw [e, uS_s]
      by_cases e2 : k = no
      · subst e2
        exact ⟨fun _ => Or.inr ⟨rfl, Or.inr rfl⟩, fun _ => new⟩
      · rw [cN_x (by omega), key2 k (by omega)]
        constructor
        · exact fun z => Or.inr ⟨rfl, Or.inl z⟩
        · rintro (z | ⟨-, z | z⟩)
          · exact absurd rfl z.1
          · exact z
          · omega
    · rw [uS_n e]
      have hnn := old _ (a3 c' hc' c hc)
      rcases hC c' hc' with z | ⟨L, hL, hLc, hU⟩
      · left
        intro k hk
        by_cases e2 : k = no
        · rw [e2]; exact hnn
        · rw [cN_x (by omega)]; exact z k (by omega)
      · right
        refine ⟨L, by omega, by rw [opx_C hL]; exact hLc, fun k hk => ?_⟩
        by_cases e2 : k = no
        · subst e2
          constructor
          · exact fun z => absurd z hnn
          · rintro (z | z)
            · have := ((b5 L hL).2 _ z.2).1; omega
            · omega
        · rw [cN_x (by omega), hU k (by omega)]
          constructor
          · exact fun z => Or.inl ⟨by omega, z⟩
          · rintro (z | z)
            · exact z.2
            · omega
  · have hfit := HF _ (d2 j hj fc fl hz)
    by_cases e : i = no
    · subst e
      rw [opx_s]
      have e1 : sto (fun k => (i ≠ i ∧ U i k) ∨ (i = i ∧ (In j k ∨ k = i))) (opx op i o) fc fl i = sto (In j) op fc fl i := sto_ag _ (fun k hk => ⟨fun z => z.elim (fun y => absurd rfl y.1) (fun y => y.2.elim id (fun y => by omega)), fun z => Or.inr ⟨rfl, Or.inl z⟩⟩) (fun k hk => opx_n hk)
      have e2 : sto (fun k => (i ≠ i ∧ U i k) ∨ (i = i ∧ (In j k ∨ k = i))) (opx op i o) fc fl (i + 1) = opi o (sto (In j) op fc fl i) := by
        unfold opi
        by_cases e3 : o.1 = 1
        · rw [sto_y ⟨Or.inr ⟨rfl, Or.inr rfl⟩, by rw [opx_s]; exact e3⟩, e1, opx_s]
          exact (@if_pos _ (Classical.propDecidable _) e3 _ _ _).symm
        · rw [sto_n (fun z => e3 (by have := z.2; rw [opx_s] at this; exact this)), e1]
          exact (@if_neg _ (Classical.propDecidable _) e3 _ _ _).symm
      rw [e2]
      exact hfit.2
    · have hi' : i < no := by omega
      rw [opx_n hi']
      have e1 : sto (fun k => (i ≠ no ∧ U i k) ∨ (i = no ∧ (In j k ∨ k = no))) (opx op no o) fc fl (i + 1) = sto (U i) op fc fl (i + 1) := sto_ag _ (fun k hk => ⟨fun z => z.elim (fun y => y.2) (fun y => absurd y.1 e), fun z => Or.inl ⟨e, z⟩⟩) (fun k hk => opx_n (by omega))
      rw [e1]
      exact d1 i hi' fc fl hz
  · have e1 : sto (fun k => In j' k ∨ (j' = j ∧ k = no)) (opx op no o) fc fl no = sto (In j') op fc fl no := sto_ag _ (fun k hk => ⟨fun z => z.elim id (fun y => by omega), fun z => Or.inl z⟩) (fun k hk => opx_n hk)
    by_cases e : j' = j
    · have hfit := HF _ (d2 j hj fc fl hz)
      rw [e, uS_s, putW_s]
      rw [e] at e1
      have e2 : sto (fun k => In j k ∨ (j = j ∧ k = no)) (opx op no o) fc fl (no + 1) = opi o (sto (In j) op fc fl no) := by
        unfold opi
        by_cases e3 : o.1 = 1
        · rw [sto_y ⟨Or.inr ⟨rfl, rfl⟩, by rw [opx_s]; exact e3⟩, e1, opx_s]
          exact (@if_pos _ (Classical.propDecidable _) e3 _ _ _).symm
        · rw [sto_n (fun z => e3 (by have := z.2; rw [opx_s] at this; exact this)), e1]
          exact (@if_neg _ (Classical.propDecidable _) e3 _ _ _).symm
      rw [e2]
      exact hfit.1
    · rw [uS_n e, putW_n e, sto_n (fun z => z.1.elim (fun y => by have := b1 j' hj' no y; omega) (fun y => absurd y.1 e)), e1]
      exact d2 j' hj' fc fl hz
/-- a world more, like world j -/
theorem hon_split {no : Nat} {op : Nat → OpT} {dc : Nat → Nat} {rem : Nat → Nat → Int32} {nw : Nat} {wst : Nat → Nat → Nat → Int32} {wfc : Nat → Nat → Int32} {wln : Nat → Nat → Nat} (h : hon no op dc rem nw wst wfc wln) {j : Nat} (hj : j < nw) {st' : Nat → Nat → Int32} {fc' : Nat → Int32} (hs : ∀ q, q < 4 → ∀ i, i < 84 → st' q i = wst j q i) (hf : ∀ x, x < 192 → fc' x = wfc j x) (h12 : ∀ x, x < 16 → wln j x ≤ 12) : hon no op dc rem (nw + 1) (putW wst nw st') (putW wfc nw fc') (putW wln nw (wln j)) := by
  obtain ⟨⟨a1, a2, a3, a4, a5⟩, In, U, ⟨b1, b2, b3, b4, b5⟩, hC, d1, d2⟩ := h
  have hv : ∀ q, q < 4 → ∀ k, k < 4 → nv (st' q) k = nv (wst j q) k := fun q hq k hk => nv_ag (fun i hi => hs q hq i (by omega)) hk
  have hw : ∀ j', j' < nw + 1 → ∀ q, q < 4 → ∀ k, k < 4 → nv (putW wst nw st' j' q) k = nv (wst (if j' = nw then j else j') q) k := fun j' hj' q hq k hk => by
    by_cases e : j' = nw
    · rw [e, putW_s, if_pos rfl, hv q hq k hk]
    · rw [putW_n e, if_neg e]
  have hl : ∀ j', j' < nw + 1 → (if j' = nw then j else j') < nw := fun j' hj' => by split <;> omega
  have hcn : ∀ j', j' < nw + 1 → ∀ q, q < 4 → ∀ k, opC op k < 4 → (cN (putW wst nw st' j' q) op k ↔ cN (wst (if j' = nw then j else j') q) op k) := fun j' hj' q hq k hk => by unfold cN; rw [hw j' hj' q hq _ hk]
  refine ⟨⟨a1, a2, a3, fun j' hj' q hq k hk => by rw [hw j' hj' q hq k hk]; exact a4 _ (hl j' hj') q hq k hk, a5⟩, (fun j' => In (if j' = nw then j else j')), U, ⟨fun j' hj' k hk => b1 _ (hl j' hj') k hk, fun j' hj' q hq k hk z => b2 _ (hl j' hj') q hq k hk ((hcn j' hj' q hq k (a1 k hk).1).mp z), fun j' hj' k z => ?_, fun j' hj' => b4 _ (hl j' hj'), b5⟩, hC, d1, fun j' hj' fc fl hz => ?_⟩
  · have hk := b1 _ (hl j' hj') k z
    exact (hcn j' hj' _ (a1 k hk).1 k (a1 k hk).1).mpr (b3 _ (hl j' hj') k z)
  · by_cases e : j' = nw
    · rw [e, putW_s, putW_s]
      have y := d2 j hj fc fl hz
      show fits fc' (wln j) (sto (In (if nw = nw then j else nw)) op fc fl no)
      rw [if_pos rfl]
      intro x hx
      refine ⟨(y x hx).1, fun k hk => ?_⟩
      rw [hf _ (by have := h12 x hx; omega)]
      exact (y x hx).2 k hk
    · rw [putW_n e, putW_n e]
      show fits (wfc j') (wln j') (sto (In (if j' = nw then j else j')) op fc fl no)
      rw [if_neg e]
      exact d2 j' (by omega) fc fl hz
theorem bn_0 : bn 0 = 0 := by decide
theorem nv_s0 {c k : Nat} {tn : Nat → Int32} (hk : k < 4) : nv (sgn tn (s0 c)) k = 0 := by
  have e : ∀ i, 4 ≤ i → i < 20 → sgn tn (s0 c) i = 0 := fun i h1 h2 => by
    rw [sgn_lo h2]
    unfold s0 upd
    rw [if_neg (by omega)]
  unfold nv
  rw [e _ (by omega) (by omega), e _ (by omega) (by omega), e _ (by omega) (by omega), e _ (by omega) (by omega), bn_0]
theorem hon_init {op : Nat → OpT} {tn : Nat → Int32} {st : Nat → Nat → Nat → Int32} (hs : ∀ q, q < 4 → ∀ i, i < 84 → st 0 q i = sgn tn (s0 q) i) : hon 0 op (fun _ => 0) (fun c => sgn tn (s0 c)) 1 st (fun _ _ => 0) (fun _ _ => 0) := by
  refine ⟨⟨fun k hk => absurd hk (Nat.not_lt_zero k), fun c hc => nv_s0 hc, fun q hq k hk => by rw [nv_s0 hk]; exact Nat.le_refl _, fun j hj q hq k hk => ?_, fun c hc => Nat.le_refl _⟩, (fun _ _ => False), (fun _ _ => False), ⟨fun _ _ _ z => z.elim, fun _ _ _ _ k hk => absurd hk (Nat.not_lt_zero k), fun _ _ _ z => z.elim, fun _ _ _ z => z.elim, fun L hL => absurd hL (Nat.not_lt_zero L)⟩, fun c hc => Or.inl (fun k hk => absurd hk (Nat.not_lt_zero k)), fun i hi => absurd hi (Nat.not_lt_zero i), fun j hj fc fl hz x hx => ⟨hz x hx, fun k hk => absurd hk (Nat.not_lt_zero k)⟩⟩
  rw [show j = 0 by omega, nv_ag (fun i hi => hs q hq i (by omega)) hk, nv_s0 hk]
  exact Nat.le_refl _
/-- a write and a read keep a store fitting -/
theorem HF_write {wfc co : Nat → Int32} {wln : Nat → Nat} {c n fi cl : Nat} (hfi : fi < 16) (h12 : ∀ x, x < 16 → wln x ≤ 12) (hcl : cl ≤ 12) : ∀ s, fits wfc wln s → fits (va_cpy co wfc 0 (fi * 12) cl) (setL wln fi cl) (opi (nI 1, c, n, fi, cl, co) s) ∧ hold (opi (nI 1, c, n, fi, cl, co) s) (nI 1, c, n, fi, cl, co) := by
  intro s hs
  have e : opi (nI 1, c, n, fi, cl, co) s = (va_cpy co s.1 0 (fi * 12) cl, upd s.2 fi (nI cl)) := @if_pos _ (Classical.propDecidable _) rfl _ _ _
  rw [e]
  refine ⟨fun x hx => ?_, ?_, fun i hi => ?_⟩
  · by_cases ex : x = fi
    · subst ex
      rw [setL_s]
      refine ⟨if_pos rfl, fun k hk => ?_⟩
      show va_cpy co s.1 0 (x * 12) cl (x * 12 + k) = _
      rw [cpy_in (by omega) (by omega), cpy_in (by omega) (by omega)]
    · rw [setL_n ex]
      refine ⟨(if_neg ex).trans (hs x hx).1, fun k hk => ?_⟩
      have := h12 x hx
      show va_cpy co s.1 0 (fi * 12) cl (x * 12 + k) = _
      rw [cpy_out (by omega), cpy_out (by omega)]
      exact (hs x hx).2 k hk
  · exact if_pos rfl
  · show va_cpy co s.1 0 (fi * 12) cl (fi * 12 + i) = co i
    rw [cpy_in (by omega) (by have : i < cl := hi; omega)]
    congr 1
    omega
theorem HF_read {wfc row : Nat → Int32} {wln : Nat → Nat} {c n fi : Nat} (hfi : fi < 16) (hrow : ∀ k, k < wln fi → row k = wfc (fi * 12 + k)) : ∀ s, fits wfc wln s → fits wfc wln (opi (nI 0, c, n, fi, wln fi, row) s) ∧ hold (opi (nI 0, c, n, fi, wln fi, row) s) (nI 0, c, n, fi, wln fi, row) := by
  intro s hs
  have e : opi (nI 0, c, n, fi, wln fi, row) s = s := @if_neg _ (Classical.propDecidable _) (show ¬ nI 0 = 1 by decide) _ _ _
  rw [e]
  exact ⟨hs, (hs fi hfi).1, fun i hi => by show s.1 (fi * 12 + i) = row i; rw [hrow i hi]; exact (hs fi hfi).2 i hi⟩
theorem updS_id {w : Nat → Nat → Int32} {j : Nat} : updS w j (w j) = w := by
  funext k
  unfold updS
  split
  · rename_i e; rw [e]
  · rfl
theorem putW_id {α : Type} {w : Nat → α} {j : Nat} : putW w j (w j) = w := by
  funext k
  unfold putW
  split
  · rename_i e; rw [e]
  · rfl
