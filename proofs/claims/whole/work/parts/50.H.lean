/-! ===== honest runs: what plain() holds the program against ===== -/
def opC (op : Nat → OpT) (k : Nat) : Nat := (op k).2.1
def opN (op : Nat → OpT) (k : Nat) : Nat := (op k).2.2.1
def cN (f : Nat → Int32) (op : Nat → OpT) (k : Nat) : Prop := opN op k ≤ nv f (opC op k)
def ops (o : OpT) (s : (Nat → Int32) × (Nat → Int32)) : (Nat → Int32) × (Nat → Int32) := (va_cpy o.2.2.2.2.2 s.1 0 (o.2.2.2.1 * 12) o.2.2.2.2.1, upd s.2 o.2.2.2.1 (nI o.2.2.2.2.1))
/-- the store behind n operations, of those of which P says so -/
noncomputable def sto (P : Nat → Prop) (op : Nat → OpT) (fc fl : Nat → Int32) : Nat → (Nat → Int32) × (Nat → Int32)
  | 0 => (fc, fl)
  | i + 1 => @ite _ (P i ∧ (op i).1 = 1) (Classical.propDecidable _) (ops (op i) (sto P op fc fl i)) (sto P op fc fl i)
theorem sto_y {P : Nat → Prop} {op : Nat → OpT} {fc fl : Nat → Int32} {i : Nat} (h : P i ∧ (op i).1 = 1) : sto P op fc fl (i + 1) = ops (op i) (sto P op fc fl i) := @if_pos _ (Classical.propDecidable _) h _ _ _
theorem sto_n {P : Nat → Prop} {op : Nat → OpT} {fc fl : Nat → Int32} {i : Nat} (h : ¬ (P i ∧ (op i).1 = 1)) : sto P op fc fl (i + 1) = sto P op fc fl i := @if_neg _ (Classical.propDecidable _) h _ _ _
theorem sto_ag {P P' : Nat → Prop} {op op' : Nat → OpT} {fc fl : Nat → Int32} : ∀ n, (∀ k, k < n → (P k ↔ P' k)) → (∀ k, k < n → op k = op' k) → sto P op fc fl n = sto P' op' fc fl n
  | 0, _, _ => rfl
  | n + 1, h, ho => by
    have ih := sto_ag (fc := fc) (fl := fl) n (fun k hk => h k (by omega)) (fun k hk => ho k (by omega))
    have e1 := ho n (by omega)
    have e2 := h n (by omega)
    by_cases c : P n ∧ (op n).1 = 1
    · rw [sto_y c, sto_y ⟨e2.mp c.1, by rw [← e1]; exact c.2⟩, ih, e1]
    · rw [sto_n c, sto_n (fun z => c ⟨e2.mpr z.1, by rw [e1]; exact z.2⟩), ih]
theorem st_sto {f : Nat → Int32} {op : Nat → OpT} {fc fl : Nat → Int32} : ∀ n, st_go f op fc fl n = sto (fun k => cnt f (op k)) op fc fl n
  | 0 => rfl
  | n + 1 => by
    have ih := st_sto (f := f) (op := op) (fc := fc) (fl := fl) n
    by_cases c : cnt f (op n) ∧ (op n).1 = 1
    · rw [st_y c, sto_y c, ih]
      rfl
    · rw [st_n c, sto_n c, ih]
/-- what a world's files hold, of a store -/
def fits (wfc : Nat → Int32) (wln : Nat → Nat) (s : (Nat → Int32) × (Nat → Int32)) : Prop := ∀ x, x < 16 → s.2 x = nI (wln x) ∧ ∀ k, k < wln x → s.1 (x * 12 + k) = wfc (x * 12 + k)
def zer (fl : Nat → Int32) : Prop := ∀ x, x < 16 → fl x = 0
def honA (no : Nat) (op : Nat → OpT) (dc : Nat → Nat) (rem : Nat → Nat → Int32) (nw : Nat) (wst : Nat → Nat → Nat → Int32) : Prop :=
  (∀ k, k < no → opC op k < 4 ∧ opN op k ≤ dc (opC op k)) ∧ (∀ c, c < 4 → nv (rem c) c = dc c) ∧ (∀ q, q < 4 → ∀ k, k < 4 → nv (rem q) k ≤ dc k) ∧ (∀ j, j < nw → ∀ q, q < 4 → ∀ k, k < 4 → nv (wst j q) k ≤ dc k) ∧ ∀ c, c < 4 → dc c ≤ no
def honB (no : Nat) (op : Nat → OpT) (nw : Nat) (wst : Nat → Nat → Nat → Int32) (In U : Nat → Nat → Prop) : Prop :=
  (∀ j, j < nw → ∀ k, In j k → k < no) ∧ (∀ j, j < nw → ∀ q, q < 4 → ∀ k, k < no → cN (wst j q) op k → In j k) ∧ (∀ j, j < nw → ∀ k, In j k → cN (wst j (opC op k)) op k) ∧ (∀ j, j < nw → ∀ i, In j i → ∀ k, k ≤ i → (In j k ↔ U i k)) ∧ ∀ L, L < no → U L L ∧ ∀ i, U L i → i ≤ L ∧ ∀ k, k ≤ i → (U L k ↔ U i k)
def honC (no : Nat) (op : Nat → OpT) (rem : Nat → Nat → Int32) (U : Nat → Nat → Prop) : Prop := ∀ c, c < 4 → (∀ k, k < no → ¬ cN (rem c) op k) ∨ ∃ L, L < no ∧ opC op L = c ∧ ∀ k, k < no → (cN (rem c) op k ↔ U L k)
def honD (no : Nat) (op : Nat → OpT) (nw : Nat) (wfc : Nat → Nat → Int32) (wln : Nat → Nat → Nat) (In U : Nat → Nat → Prop) : Prop := (∀ i, i < no → ∀ fc fl, zer fl → hold (sto (U i) op fc fl (i + 1)) (op i)) ∧ ∀ j, j < nw → ∀ fc fl, zer fl → fits (wfc j) (wln j) (sto (In j) op fc fl no)
def hon (no : Nat) (op : Nat → OpT) (dc : Nat → Nat) (rem : Nat → Nat → Int32) (nw : Nat) (wst : Nat → Nat → Nat → Int32) (wfc : Nat → Nat → Int32) (wln : Nat → Nat → Nat) : Prop :=
  honA no op dc rem nw wst ∧ ∃ In U : Nat → Nat → Prop, honB no op nw wst In U ∧ honC no op rem U ∧ honD no op nw wfc wln In U
theorem cnt_cN {f : Nat → Int32} {op : Nat → OpT} {k : Nat} (hf : b20 f) (hc : opC op k < 4) (hn : opN op k < 2 ^ 31) : cnt f (op k) ↔ cN f op k := by
  unfold cnt cN
  have e : ct f (op k).2.1 = lN (nv f (op k).2.1) := ct_nv hf hc
  rw [e, nI_l (show (op k).2.2.1 < 2 ^ 31 from hn)]
  exact pk_lLE (by have : (op k).2.2.1 < 2 ^ 31 := hn; omega) (by have := nv_lt hf hc; unfold opC at this; omega)
/-- an honest run is plain: each client's answers -/
theorem hon_ans {no : Nat} {op : Nat → OpT} {dc : Nat → Nat} {rem : Nat → Nat → Int32} {nw : Nat} {wst : Nat → Nat → Nat → Int32} {wfc : Nat → Nat → Int32} {wln : Nat → Nat → Nat} (h : hon no op dc rem nw wst wfc wln) (hno : no < 2 ^ 31) (hb : ∀ c, c < 4 → b20 (rem c)) {a : Nat} (ha : a < 4) (fc fl : Nat → Int32) : ansP (rem a) op fc (fl_go fl 0 16) a no := by
  obtain ⟨⟨a1, a2, a3, a4, a5⟩, In, U, ⟨b1, b2, b3, b4, b5⟩, hC, d1, d2⟩ := h
  have hcn : ∀ k, k < no → (cnt (rem a) (op k) ↔ cN (rem a) op k) := fun k hk => cnt_cN (hb a ha) (a1 k hk).1 (by have h1 := (a1 k hk).2; have h2 := a5 _ (a1 k hk).1; omega)
  intro i hi hia
  have hia : opC op i = a := hia
  have c1 : cN (rem a) op i := by
    unfold cN
    rw [hia, a2 a ha, ← hia]
    exact (a1 i hi).2
  refine ⟨(hcn i hi).mpr c1, ?_⟩
  rcases hC a ha with z | ⟨L, hL, -, hU⟩
  · exact absurd c1 (z i hi)
  · have hUi := ((b5 L hL).2 i ((hU i hi).mp c1)).2
    have e : st_go (rem a) op fc (fl_go fl 0 16) (i + 1) = sto (U i) op fc (fl_go fl 0 16) (i + 1) := by
      rw [st_sto]
      exact sto_ag _ (fun k hk => (hcn k (by omega)).trans ((hU k (by omega)).trans (hUi k (by omega)))) (fun _ _ => rfl)
    rw [e]
    exact d1 i hi fc _ (fun x hx => if_pos hx)
theorem hon_one {no : Nat} {op : Nat → OpT} {dc : Nat → Nat} {rem : Nat → Nat → Int32} {nw : Nat} {wst : Nat → Nat → Nat → Int32} {wfc : Nat → Nat → Int32} {wln : Nat → Nat → Nat} (h : hon no op dc rem nw wst wfc wln) (hno : no < 2 ^ 31) (hb : ∀ c, c < 4 → b20 (rem c)) {a b : Nat} (ha : a < 4) (hb4 : b < 4) (hab : na (rem a) (rem b)) : ∀ i, i < no → ¬ (cnt (rem a) (op i) ∧ endP (rem a) (rem b) op i) ∧ ¬ (cnt (rem b) (op i) ∧ endP (rem b) (rem a) op i) := by
  obtain ⟨⟨a1, a2, a3, a4, a5⟩, In, U, ⟨b1, b2, b3, b4, b5⟩, hC, d1, d2⟩ := h
  have hn31 : ∀ k, k < no → opN op k < 2 ^ 31 := fun k hk => by have h1 := (a1 k hk).2; have h2 := a5 _ (a1 k hk).1; omega
  have hca : ∀ k, k < no → (cnt (rem a) (op k) ↔ cN (rem a) op k) := fun k hk => cnt_cN (hb a ha) (a1 k hk).1 (hn31 k hk)
  have hcb : ∀ k, k < no → (cnt (rem b) (op k) ↔ cN (rem b) op k) := fun k hk => cnt_cN (hb b hb4) (a1 k hk).1 (hn31 k hk)
  have hle := (na_nv (hb a ha) (hb b hb4)).mp hab
  have hab2 : ∀ k, k < no → cN (rem a) op k → cN (rem b) op k := fun k hk z => Nat.le_trans z (hle _ (a1 k hk).1)
  intro i hi
  constructor
  · rintro ⟨z1, j, hj, z2, z3⟩
    have y1 := (hca i hi).mp z1
    have y2 := (hcb j (by omega)).mp z2
    have y3 : ¬ cN (rem a) op j := fun y => z3 ((hca j (by omega)).mpr y)
    rcases hC a ha with z | ⟨La, hLa, hLc, hUa⟩
    · exact absurd y1 (z i hi)
    rcases hC b hb4 with z | ⟨Lb, hLb, -, hUb⟩
    · exact absurd y2 (z j (by omega))
    have u1 : U La La := (b5 La hLa).1
    have u2 : cN (rem b) op La := hab2 La hLa ((hUa La hLa).mpr u1)
    have u3 := ((b5 Lb hLb).2 La ((hUb La hLa).mp u2)).2
    have u4 := ((b5 La hLa).2 i ((hUa i hi).mp y1)).1
    exact y3 ((hUa j (by omega)).mpr ((u3 j (by omega)).mp ((hUb j (by omega)).mp y2)))
  · rintro ⟨-, j, hj, z2, z3⟩
    exact z3 ((hcb j (by omega)).mpr (hab2 j (by omega) ((hca j (by omega)).mp z2)))
theorem hon_beg {no : Nat} {op : Nat → OpT} {dc : Nat → Nat} {rem : Nat → Nat → Int32} {nw : Nat} {wst : Nat → Nat → Nat → Int32} {wfc : Nat → Nat → Int32} {wln : Nat → Nat → Nat} (h : hon no op dc rem nw wst wfc wln) (hno : no < 2 ^ 31) (hb : ∀ c, c < 4 → b20 (rem c)) {a b : Nat} (ha : a < 4) (hb4 : b < 4) (hab : na (rem a) (rem b) ∨ na (rem b) (rem a)) : begP (rem a) (rem b) op no := by
  intro i hi z
  rcases hab with y | y
  · have w := hon_one h hno hb ha hb4 y i hi
    exact z.elim w.1 w.2
  · have w := hon_one h hno hb hb4 ha y i hi
    exact z.elim w.2 w.1
/-! ===== counts of the next statement ===== -/
theorem nv_ag {f g : Nat → Int32} (h : ∀ i, i < 20 → f i = g i) {k : Nat} (hk : k < 4) : nv f k = nv g k := by
  unfold nv
  rw [h _ (by omega), h _ (by omega), h _ (by omega), h _ (by omega)]
theorem dig4 (N : Nat) (h : N < 2 ^ 32) : ((N / 2 ^ 24 % 256 * 256 + N / 2 ^ 16 % 256) * 256 + N / 2 ^ 8 % 256) * 256 + N / 2 ^ 0 % 256 = N := by omega
theorem nv_ms {st : Nat → Nat → Int32} {rc : Nat → Int32} {c k : Nat} (h : b20 (st (gr st))) (hk : k < 4) (hN : nv (st (gr st)) k + 1 < 2 ^ 32) : nv (ms_go st rc c 4) k = nv (st (gr st)) k + (if k = c then 1 else 0) := by
  obtain ⟨N, hNe⟩ : ∃ N, N = nv (st (gr st)) k + (if k = c then 1 else 0) := ⟨_, rfl⟩
  have hN2 : N < 2 ^ 32 := by rw [hNe]; split <;> omega
  have e0 : ct (st (gr st)) k + (if k = c then nI 1 else nI 0).toInt64 = lN N := by
    rw [ct_nv h hk, hNe]
    by_cases e : k = c
    · rw [if_pos e, if_pos e, i64_1, lN_add]
    · rw [if_neg e, if_neg e, i64_0, lN_add]
  have eb : ∀ b, b < 4 → bn (ms_go st rc c 4 (4 + 4 * k + b)) = N / 2 ^ (24 - 8 * b) % 256 := fun b hb => by
    rw [ms_in 4 (Nat.le_refl _) k hk b hb, e0, by_c (by omega) hb, bn_nI (by have := Nat.mod_lt (N / 2 ^ (24 - 8 * b)) (show 256 > 0 by decide); omega)]
  rw [← hNe]
  unfold nv
  have e1 := eb 0 (by decide)
  have e2 := eb 1 (by decide)
  have e3 := eb 2 (by decide)
  have e4 := eb 3 (by decide)
  rw [show 4 + 4 * k = 4 + 4 * k + 0 from rfl, e1, e2, e3, e4]
  exact dig4 N hN2
theorem sgn_lo {tn f : Nat → Int32} {i : Nat} (h : i < 20) : sgn tn f i = f i := by
  unfold sgn
  rw [cpy_out (b := 52) (by omega), cpy_out (b := 20) (by omega)]
theorem nv_nst {st : Nat → Nat → Int32} {rc tn : Nat → Int32} {c k : Nat} (h : b20 (st (gr st))) (hk : k < 4) (hN : nv (st (gr st)) k + 1 < 2 ^ 32) : nv (nst st rc tn c) k = nv (st (gr st)) k + (if k = c then 1 else 0) := by
  rw [← nv_ms (rc := rc) h hk hN]
  exact nv_ag (fun i hi => sgn_lo hi) hk
