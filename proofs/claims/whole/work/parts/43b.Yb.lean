/-! ===== the reference's tree ===== -/
def lmsg2 (a b : Nat → Int32) : Nat → Int32 := fun j => if j = 0 then nI 1 else if j < 33 then a (j - 1) else b (j - 33)
/-- level e, place p: 32 bytes -/
def lvl (fc : Nat → Int32) (ln : Nat → Nat) : Nat → Nat → Nat → Int32
  | 0, p => leafd fc p (ln p)
  | e + 1, p => dgb 65 (lmsg2 (lvl fc ln e (2 * p)) (lvl fc ln e (2 * p + 1)))
def root (fc : Nat → Int32) (ln : Nat → Nat) : Nat → Int32 := lvl fc ln 4 0
theorem byt_lvl (fc : Nat → Int32) (ln : Nat → Nat) (e p i : Nat) : byt (lvl fc ln e p i) := by
  cases e with
  | zero => exact byt_dgb _ _ _
  | succ e => exact byt_dgb _ _ _
theorem lvl_up {fc : Nat → Int32} {ln : Nat → Nat} {tn : Nat → Int32} {e K : Nat} (h : trO fc ln tn (fun _ => True) (fun _ => True)) (h1 : 1 ≤ K) (h8 : K ≤ 8) (ih : ∀ p, p < 2 * K → ∀ j, j < 32 → tn ((2 * K + p) * 32 + j) = lvl fc ln e p j) : ∀ p, p < K → ∀ j, j < 32 → tn ((K + p) * 32 + j) = lvl fc ln (e + 1) p j := by
  intro p hp j hj
  rw [h.2 (K + p) (by omega) (by omega) trivial j hj]
  refine congrFun (dgb_ag (fun i hi => ?_)) j
  unfold nmsg lmsg2
  by_cases h0 : i = 0
  · rw [if_pos h0, if_pos h0]
  · rw [if_neg h0, if_neg h0]
    by_cases h3 : i < 33
    · rw [if_pos h3, ← ih (2 * p) (by omega) (i - 1) (by omega)]
      congr 1
      omega
    · rw [if_neg h3, ← ih (2 * p + 1) (by omega) (i - 33) (by omega)]
      congr 1
      omega
/-- the program's tree has the reference's root -/
theorem tOK_root {fc fl tn : Nat → Int32} {ln : Nat → Nat} (h : tOK fc fl tn ln) : ∀ j, j < 32 → tn (32 + j) = root fc ln j := by
  intro j hj
  have a0 : ∀ p, p < 2 * 8 → ∀ j, j < 32 → tn ((2 * 8 + p) * 32 + j) = lvl fc ln 0 p j := fun p hp j hj => h.2.1 p hp trivial j hj
  have a1 := lvl_up h.2 (by decide) (by decide) a0
  have a2 := lvl_up (K := 4) h.2 (by decide) (by decide) a1
  have a3 := lvl_up (K := 2) h.2 (by decide) (by decide) a2
  have a4 := lvl_up (K := 1) h.2 (by decide) (by decide) a3 0 (by decide) j hj
  rw [← show (1 + 0) * 32 + j = 32 + j by omega]
  exact a4
theorem lvl_ag {fc fc' : Nat → Int32} {ln ln' : Nat → Nat} (hl : ∀ x, x < 16 → ln x = ln' x) (hf : ∀ x, x < 16 → ∀ j, j < ln x → fc (x * 12 + j) = fc' (x * 12 + j)) : ∀ e p, p * 2 ^ e + 2 ^ e ≤ 16 → lvl fc ln e p = lvl fc' ln' e p
  | 0, p, h => by
    have hp : p < 16 := by rw [Nat.pow_zero] at h; omega
    show leafd fc p (ln p) = leafd fc' p (ln' p)
    rw [← hl p hp]
    exact leafd_ag (hf p hp)
  | e + 1, p, h => by
    rw [Nat.pow_succ] at h
    have e1 : p * (2 ^ e * 2) = 2 * p * 2 ^ e := by rw [Nat.mul_comm (2 ^ e) 2, ← Nat.mul_assoc, Nat.mul_comm p 2]
    have e2 : (2 * p + 1) * 2 ^ e = 2 * p * 2 ^ e + 2 ^ e := by rw [Nat.add_mul, Nat.one_mul]
    show dgb 65 _ = dgb 65 _
    rw [lvl_ag hl hf e (2 * p) (by omega), lvl_ag hl hf e (2 * p + 1) (by omega)]
theorem root_ag {fc fc' : Nat → Int32} {ln ln' : Nat → Nat} (hl : ∀ x, x < 16 → ln x = ln' x) (hf : ∀ x, x < 16 → ∀ j, j < ln x → fc (x * 12 + j) = fc' (x * 12 + j)) : root fc ln = root fc' ln' := lvl_ag hl hf 4 0 (by decide)
theorem lmsg_hi {fc : Nat → Int32} {x len k : Nat} : lmsg fc x len (3 + k) = fc (x * 12 + k) := by
  unfold lmsg
  rw [if_neg (by omega), if_neg (by omega), if_neg (by omega), show 3 + k - 3 = k by omega]
theorem cpy_sz {s d : Nat → Int32} {b i : Nat} {x : Int32} (hx : x = s i) : upd (va_cpy s d 0 b i) (b + i) x = va_cpy s d 0 b (i + 1) := cpy_s (by rw [Nat.zero_add]; exact hx)
theorem tree_set {d t : Nat → Int32} {x : Nat} {P : Nat → Nat → Int32} (h : ∀ q, q < x → ∀ k, k < 32 → t (32 * q + k) = P q k) (hd : ∀ k, k < 32 → d k = P x k) : ∀ q, q < x + 1 → ∀ k, k < 32 → va_cpy d t 0 (32 * x) 32 (32 * q + k) = P q k := by
  intro q hq k hk
  by_cases e : q = x
  · subst e
    rw [cpy_in (by omega) (by omega), show 0 + (32 * q + k - 32 * q) = k by omega]
    exact hd k hk
  · rw [cpy_out (by omega)]
    exact h q (by omega) k hk
theorem lm2 {t a b : Nat → Int32} {u : Nat} (ha : ∀ k, k < 32 → t (32 * (2 * u) + k) = a k) (hb : ∀ k, k < 32 → t (32 * (2 * u + 1) + k) = b k) (ba : ∀ k, byt (a k)) (bb : ∀ k, byt (b k)) {k : Nat} (hk : k < 64) : t (64 * u + k) &&& nI 255 = lmsg2 a b (1 + k) := by
  unfold lmsg2
  rw [if_neg (by omega)]
  by_cases h : 1 + k < 33
  · rw [if_pos h, show 64 * u + k = 32 * (2 * u) + k by omega, ha k (by omega), show 1 + k - 1 = k by omega]
    exact ba k
  · rw [if_neg h, show 64 * u + k = 32 * (2 * u + 1) + (k - 32) by omega, hb (k - 32) (by omega), show 1 + k - 33 = k - 32 by omega]
    exact bb _
theorem byt_root (fc : Nat → Int32) (ln : Nat → Nat) (i : Nat) : byt (root fc ln i) := byt_lvl _ _ _ _ _

set_option maxHeartbeats 4000000 in
set_option maxRecDepth 100000 in
/-- findRoot(world) -/
theorem c_X9_findRoot (l : Launch) (G : mm_G) (M : mm_M) (sz : Nat) (md : Nat → Nat) (v6 v9 v11 v12 v13 v22 : Int32) (nz : Nat) (f d : Nat → Int32) (jj : Nat) (fs fl tt : Nat → Int32) (ln : Nat → Nat) (h5 : M (md 5) = some (ia G 1152 fs)) (h6 : M (md 6) = some (ia G 96 fl)) (h15 : M (md 15) = some (ia G 512 tt)) (hJ : yI md) (hS : yS G M md v6 v9 v11 v12 v13 v22 nz f d) (hj6 : jj < 6) (hln : ∀ x, x < 16 → fl (16 * jj + x) = nI (ln x) ∧ ln x ≤ 12) (hby : ∀ x, x < 192 → byt (fs (192 * jj + x))) : mm_v l yX9_findRoot wsX9_findRoot ({ frames := 3, cells := 0, slots := 0, locals := 150 } : Room) G ([.ref (md 0), .int (nI jj)] : List Value) M sz (fun M' => ∃ f' d' t', yS G M' md v6 v9 v11 v12 v13 v22 0 f' d' ∧ M' (md 15) = some (ia G 512 t') ∧ (∀ k, k < 32 → t' k = root (fun x => fs (192 * jj + x)) ln k) ∧ mm_fr [md 0, md 10, md 11, md 13, md 14, md 15] M M') := by
  refine mm_enter (cc := cX9_findRoot) (maxL := 5) (ret := none) _ (by decide) rfl (Nat.le_of_ble_eq_true rfl) ?_
  intro p0 e0 s m0 be0 me0 c0 ls S hr hlocks hname hA hC hR hl
  have hx := S.1
  have hb := S.2.1
  have hl : lv_has ls 5 [(0, .ref (md 0)), (1, .int (nI jj))] := hl
  have inRX9 : ∀ w ∈ wsX90, w ∈ wsX9_findRoot := by decide +kernel
  have hF : mm_fr [md 0, md 10, md 11, md 13, md 14, md 15] M M := mm_fr.rf
  have h0 : M (md 0) = some (ob 10 [.ref (md 1), .ref (md 2), .ref (md 3), .ref (md 4), .ref (md 5), .ref (md 6), .int v6, .ref (md 7), .ref (md 8), .int v9, .ref (md 9), .int v11, .int v12, .int v13, .ref (md 10), .int (nI nz), .ref (md 11), .ref (md 12), .ref (md 13), .ref (md 14), .ref (md 15), .ref (md 16), .int v22]) := hS.1
  have h10 : M (md 10) = some (ia G 256 f) := hS.2.1
  have h11 : M (md 11) = some (ia G 32 d) := hS.2.2.1
  refine lv_iconst (v := nI 0) hx hb dX9_findRoot_0 (by decide) ?_
  refine lv_istore_n (lv' := [(2, .int (nI 0)), (0, .ref (md 0)), (1, .int (nI jj))]) hx hb dX9_findRoot_1 rfl hl (by decide) rfl (fun ls hl => ?_)
  obtain ⟨fc, efc⟩ : ∃ z : Nat → Int32, z = fun x => fs (192 * jj + x) := ⟨_, rfl⟩
  have hfc : ∀ x, fc x = fs (192 * jj + x) := fun x => by rw [efc]
  have loopA : ∀ (n : Nat) (x : Nat) (n1 : Nat) (fm d1 t1 : Nat → Int32) (M1 : mm_M) (H : Heap) (locs : List Loc) (ls : Array Slot), (16 < x + n) → (x ≤ 16) → (yS G M1 md v6 v9 v11 v12 v13 v22 n1 fm d1) → (M1 (md 5) = some (ia G 1152 fs)) → (M1 (md 6) = some (ia G 96 fl)) → (M1 (md 15) = some (ia G 512 t1)) → (0 < x → n1 = 0) → (∀ q, q < x → ∀ k, k < 32 → t1 (32 * q + k) = lvl fc ln 0 q k) → (mm_fr [md 0, md 10, md 11, md 13, md 14, md 15] M M1) → mm_R G s (mm_A M sz) M1 H locs → lv_has ls 5 [(0, .ref (md 0)), (1, .int (nI jj)), (2, .int (nI x))] → W p0 l e0 ({ frames := 3, cells := 0, slots := 0, locals := 150 } : Room) s m0 ([.ref (md 0), .int (nI jj)] : List Value).toArray be0 me0 c0 H locs 0 0 (MQ be0 (va_Qv (fun M' => ∃ f' d' t', yS G M' md v6 v9 v11 v12 v13 v22 0 f' d' ∧ M' (md 15) = some (ia G 512 t') ∧ (∀ k, k < 32 → t' k = root (fun x => fs (192 * jj + x)) ln k) ∧ mm_fr [md 0, md 10, md 11, md 13, md 14, md 15] M M') (fun M' t => mm_H G (mm_A M sz) M' t.heap) (mm_A M sz)) ([.ref (md 0), .int (nI jj)] : List Value).toArray s 0 0 (mm_A M sz)) (F0 m0 2 ls []) := by
    intro n
    induction n with
    | zero =>
      intro x n1 fm d1 t1 M1 H locs ls hn hi hS h5 h6 h15 hn0 hT hF hR hl
      omega
    | succ n ih =>
      intro x n1 fm d1 t1 M1 H locs ls hn hi hS h5 h6 h15 hn0 hT hF hR hl
      have h0 : M1 (md 0) = some (ob 10 [.ref (md 1), .ref (md 2), .ref (md 3), .ref (md 4), .ref (md 5), .ref (md 6), .int v6, .ref (md 7), .ref (md 8), .int v9, .ref (md 9), .int v11, .int v12, .int v13, .ref (md 10), .int (nI n1), .ref (md 11), .ref (md 12), .ref (md 13), .ref (md 14), .ref (md 15), .ref (md 16), .int v22]) := hS.1
      have h10 : M1 (md 10) = some (ia G 256 fm) := hS.2.1
      have h11 : M1 (md 11) = some (ia G 32 d1) := hS.2.2.1
      refine lv_iload_n hx hb dX9_findRoot_2 rfl (lv_at hl 2 rfl) ?_
      refine lv_bipush (v := nI 16) hx hb dX9_findRoot_3 (by decide) ?_
      refine lv_icmp_ge (tgt := 121) hx hb dX9_findRoot_5 (by decide) (fun c27 => ?_) (fun c27 => ?_)
      · have c27 : 16 ≤ x := (nI_leI (a := 16) (b := x) (by omega) (by omega)).mp c27
        have e4 : 16 = x := by omega
        subst e4
        have e5 : 0 = n1 := (hn0 (by decide)).symm
        subst e5
        refine lv_bipush (v := nI 8) hx hb dX9_findRoot_121 (by decide) ?_
        refine lv_istore_n (lv' := [(2, .int (nI 8)), (0, .ref (md 0)), (1, .int (nI jj))]) hx hb dX9_findRoot_123 rfl hl (by decide) rfl (fun ls hl => ?_)
        have hT : ∀ q, q < 2 * 8 ∨ q = 0 → ∀ k, k < 32 → t1 (32 * q + k) = lvl fc ln 0 q k := fun q hq => hT q (by omega)
        have loopB : ∀ (n : Nat) (e nn : Nat) (fm d1 t1 : Nat → Int32) (M1 : mm_M) (H : Heap) (locs : List Loc) (ls : Array Slot), (4 < e + n) → ((e = 0 ∧ nn = 8) ∨ (e = 1 ∧ nn = 4) ∨ (e = 2 ∧ nn = 2) ∨ (e = 3 ∧ nn = 1) ∨ (e = 4 ∧ nn = 0)) → (yS G M1 md v6 v9 v11 v12 v13 v22 0 fm d1) → (M1 (md 5) = some (ia G 1152 fs)) → (M1 (md 6) = some (ia G 96 fl)) → (M1 (md 15) = some (ia G 512 t1)) → (∀ q, q < 2 * nn ∨ q = 0 → ∀ k, k < 32 → t1 (32 * q + k) = lvl fc ln e q k) → (mm_fr [md 0, md 10, md 11, md 13, md 14, md 15] M M1) → mm_R G s (mm_A M sz) M1 H locs → lv_has ls 5 [(0, .ref (md 0)), (1, .int (nI jj)), (2, .int (nI nn))] → W p0 l e0 ({ frames := 3, cells := 0, slots := 0, locals := 150 } : Room) s m0 ([.ref (md 0), .int (nI jj)] : List Value).toArray be0 me0 c0 H locs 0 0 (MQ be0 (va_Qv (fun M' => ∃ f' d' t', yS G M' md v6 v9 v11 v12 v13 v22 0 f' d' ∧ M' (md 15) = some (ia G 512 t') ∧ (∀ k, k < 32 → t' k = root (fun x => fs (192 * jj + x)) ln k) ∧ mm_fr [md 0, md 10, md 11, md 13, md 14, md 15] M M') (fun M' t => mm_H G (mm_A M sz) M' t.heap) (mm_A M sz)) ([.ref (md 0), .int (nI jj)] : List Value).toArray s 0 0 (mm_A M sz)) (F0 m0 124 ls []) := by
          intro n
          induction n with
          | zero =>
            intro e nn fm d1 t1 M1 H locs ls hn he hS h5 h6 h15 hT hF hR hl
            omega
          | succ n ih =>
            intro e nn fm d1 t1 M1 H locs ls hn he hS h5 h6 h15 hT hF hR hl
            have h0 : M1 (md 0) = some (ob 10 [.ref (md 1), .ref (md 2), .ref (md 3), .ref (md 4), .ref (md 5), .ref (md 6), .int v6, .ref (md 7), .ref (md 8), .int v9, .ref (md 9), .int v11, .int v12, .int v13, .ref (md 10), .int (nI 0), .ref (md 11), .ref (md 12), .ref (md 13), .ref (md 14), .ref (md 15), .ref (md 16), .int v22]) := hS.1
            have h10 : M1 (md 10) = some (ia G 256 fm) := hS.2.1
            have h11 : M1 (md 11) = some (ia G 32 d1) := hS.2.2.1
            refine lv_iload_n hx hb dX9_findRoot_124 rfl (lv_at hl 2 rfl) ?_
            refine lv_if_le (tgt := 224) hx hb dX9_findRoot_125 (by decide) (fun c1 => ?_) (fun c1 => ?_)
            · have c1 : nn ≤ 0 := (nI_leI (a := nn) (b := 0) (by omega) (by omega)).mp c1
              have e5 : 4 = e := by omega
              subst e5
              exact mm_vret S hr hlocks hR ⟨_, _, _, hS, h15, fun k hk => by have h9 := hT 0 (Or.inr rfl) k hk; rw [show 32 * 0 + k = k by omega] at h9; rw [← efc]; unfold root; exact h9, hF⟩ dX9_findRoot_224
            · have c1 : ¬ (nn ≤ 0) := fun z => c1 ((nI_leI (a := nn) (b := 0) (by omega) (by omega)).mpr z)
              have ihB := ih
              refine lv_iconst (v := nI 0) hx hb dX9_findRoot_128 (by decide) ?_
              refine lv_istore_n (lv' := [(3, .int (nI 0)), (0, .ref (md 0)), (1, .int (nI jj)), (2, .int (nI nn))]) hx hb dX9_findRoot_129 rfl hl (by decide) rfl (fun ls hl => ?_)
              have loopU : ∀ (n : Nat) (u : Nat) (fm d1 t2 : Nat → Int32) (M1 : mm_M) (H : Heap) (locs : List Loc) (ls : Array Slot), (nn < u + n) → (u ≤ nn) → (yS G M1 md v6 v9 v11 v12 v13 v22 0 fm d1) → (M1 (md 5) = some (ia G 1152 fs)) → (M1 (md 6) = some (ia G 96 fl)) → (M1 (md 15) = some (ia G 512 t2)) → (∀ q, q < u → ∀ k, k < 32 → t2 (32 * q + k) = lvl fc ln (e + 1) q k) → (∀ q, u ≤ q → q < 2 * nn → ∀ k, k < 32 → t2 (32 * q + k) = lvl fc ln e q k) → (mm_fr [md 0, md 10, md 11, md 13, md 14, md 15] M M1) → mm_R G s (mm_A M sz) M1 H locs → lv_has ls 5 [(0, .ref (md 0)), (1, .int (nI jj)), (2, .int (nI nn)), (3, .int (nI u))] → W p0 l e0 ({ frames := 3, cells := 0, slots := 0, locals := 150 } : Room) s m0 ([.ref (md 0), .int (nI jj)] : List Value).toArray be0 me0 c0 H locs 0 0 (MQ be0 (va_Qv (fun M' => ∃ f' d' t', yS G M' md v6 v9 v11 v12 v13 v22 0 f' d' ∧ M' (md 15) = some (ia G 512 t') ∧ (∀ k, k < 32 → t' k = root (fun x => fs (192 * jj + x)) ln k) ∧ mm_fr [md 0, md 10, md 11, md 13, md 14, md 15] M M') (fun M' t => mm_H G (mm_A M sz) M' t.heap) (mm_A M sz)) ([.ref (md 0), .int (nI jj)] : List Value).toArray s 0 0 (mm_A M sz)) (F0 m0 130 ls []) := by
                intro n
                induction n with
                | zero =>
                  intro u fm d1 t2 M1 H locs ls hn hi hS h5 h6 h15 hP hQ hF hR hl
                  omega
                | succ n ih =>
                  intro u fm d1 t2 M1 H locs ls hn hi hS h5 h6 h15 hP hQ hF hR hl
                  have h0 : M1 (md 0) = some (ob 10 [.ref (md 1), .ref (md 2), .ref (md 3), .ref (md 4), .ref (md 5), .ref (md 6), .int v6, .ref (md 7), .ref (md 8), .int v9, .ref (md 9), .int v11, .int v12, .int v13, .ref (md 10), .int (nI 0), .ref (md 11), .ref (md 12), .ref (md 13), .ref (md 14), .ref (md 15), .ref (md 16), .int v22]) := hS.1
                  have h10 : M1 (md 10) = some (ia G 256 fm) := hS.2.1
                  have h11 : M1 (md 11) = some (ia G 32 d1) := hS.2.2.1
                  refine lv_iload_n hx hb dX9_findRoot_130 rfl (lv_at hl 3 rfl) ?_
                  refine lv_iload_n hx hb dX9_findRoot_131 rfl (lv_at hl 2 rfl) ?_
                  refine lv_icmp_ge (tgt := 217) hx hb dX9_findRoot_132 (by decide) (fun c28 => ?_) (fun c28 => ?_)
                  · have c28 : nn ≤ u := (nI_leI (a := nn) (b := u) (by omega) (by omega)).mp c28
                    have e4 : nn = u := by omega
                    subst e4
                    refine lv_iload_n hx hb dX9_findRoot_217 rfl (lv_at hl 2 rfl) ?_
                    refine lv_iconst (v := nI 2) hx hb dX9_findRoot_218 (by decide) ?_
                    refine lv_idiv hx hb dX9_findRoot_219 (by first | decide | (exact nI_ne0 (by omega) (by omega))) ?_
                    refine mm_eqi (pk_div (by omega) (by omega) (by omega)) ?_
                    refine lv_istore_n (lv' := [(2, .int (nI (nn / 2))), (0, .ref (md 0)), (1, .int (nI jj)), (3, .int (nI nn))]) hx hb dX9_findRoot_220 rfl hl (by decide) rfl (fun ls hl => ?_)
                    refine lv_goto (tgt := 124) hx hb dX9_findRoot_221 (by decide) ?_
                    exact ihB (e + 1) (nn / 2) _ _ _ _ H locs ls (by omega) (by omega) hS h5 h6 h15 (fun q hq k hk => hP q (by omega) k hk) hF hR (lv_sub hl [1, 2, 0] rfl)
                  · have c28 : ¬ (nn ≤ u) := fun z => c28 ((nI_leI (a := nn) (b := u) (by omega) (by omega)).mpr z)
                    have ihU := ih
                    refine lv_aload_n hx hb dX9_findRoot_135 rfl (lv_at hl 0 rfl) ?_
                    refine lv_iconst (v := nI 1) hx hb dX9_findRoot_136 (by decide) ?_
                    have hm : ∀ j, j < 0 → fm j = (lmsg2 (lvl fc ln e (2 * u)) (lvl fc ln e (2 * u + 1))) j := (fun j hj => absurd hj (Nat.not_lt_zero j))
                    refine mm_callv hA hR (va_runV (As := [.int (nI 1)]) (rest := []) S (c_X9_add l G M1 _ md _ _ _ _ _ _ _ _ _ (nI 1) hJ hS (by omega)) (cwV 1 S.2.2.2.2 gX9_findRoot_X9_add rfl rfl rfl (by decide +kernel) ⟨Nat.le_of_ble_eq_true rfl, Nat.le_of_ble_eq_true rfl⟩) (mm_preV hC hA hR _ h0 rfl) rfl rfl hl.1 rfl (lv_room (Nat.le_of_ble_eq_true rfl)) dX9_findRoot_137 ⟨Nat.le_of_ble_eq_true rfl, Nat.le_of_ble_eq_true rfl⟩) (fun M30 H locs hp hR => ?_)
                    obtain ⟨hS, ff⟩ := hp
                    have h5 := ff.at h5 (mm_nc (yne hJ (by decide) (by decide) (by decide)) (mm_nc (yne hJ (by decide) (by decide) (by decide)) (mm_nc (yne hJ (by decide) (by decide) (by decide)) (mm_nc (yne hJ (by decide) (by decide) (by decide)) (mm_nc (yne hJ (by decide) (by decide) (by decide)) mm_n0)))))
                    have h6 := ff.at h6 (mm_nc (yne hJ (by decide) (by decide) (by decide)) (mm_nc (yne hJ (by decide) (by decide) (by decide)) (mm_nc (yne hJ (by decide) (by decide) (by decide)) (mm_nc (yne hJ (by decide) (by decide) (by decide)) (mm_nc (yne hJ (by decide) (by decide) (by decide)) mm_n0)))))
                    have h15 := ff.at h15 (mm_nc (yne hJ (by decide) (by decide) (by decide)) (mm_nc (yne hJ (by decide) (by decide) (by decide)) (mm_nc (yne hJ (by decide) (by decide) (by decide)) (mm_nc (yne hJ (by decide) (by decide) (by decide)) (mm_nc (yne hJ (by decide) (by decide) (by decide)) mm_n0)))))
                    have h0 : M30 (md 0) = some (ob 10 [.ref (md 1), .ref (md 2), .ref (md 3), .ref (md 4), .ref (md 5), .ref (md 6), .int v6, .ref (md 7), .ref (md 8), .int v9, .ref (md 9), .int v11, .int v12, .int v13, .ref (md 10), .int (nI 1), .ref (md 11), .ref (md 12), .ref (md 13), .ref (md 14), .ref (md 15), .ref (md 16), .int v22]) := hS.1
                    have h10 : M30 (md 10) = some (ia G 256 (upd fm 0 ((nI 1) &&& nI 255))) := hS.2.1
                    have h11 : M30 (md 11) = some (ia G 32 d1) := hS.2.2.1
                    have hF := hF.tr ff (mm_ic 0 rfl (mm_ic 1 rfl (mm_ic 2 rfl (mm_ic 3 rfl (mm_ic 4 rfl mm_i0)))))
                    have hm : ∀ j, j < 1 → (upd fm 0 ((nI 1) &&& nI 255)) j = (lmsg2 (lvl fc ln e (2 * u)) (lvl fc ln e (2 * u + 1))) j := mt_s hm (show nI 1 &&& nI 255 = nI 1 from by decide)
                    obtain ⟨fm31, efm31⟩ : ∃ z : Nat → Int32, z = upd fm 0 ((nI 1) &&& nI 255) := ⟨_, rfl⟩
                    rw [← efm31] at h10
                    rw [← efm31] at hS hm
                    refine lv_iconst (v := nI 0) hx hb dX9_findRoot_140 (by decide) ?_
                    refine lv_istore (lv' := [(4, .int (nI 0)), (0, .ref (md 0)), (1, .int (nI jj)), (2, .int (nI nn)), (3, .int (nI u))]) hx hb dX9_findRoot_141 hl (by decide) rfl (fun ls hl => ?_)
                    have loopK : ∀ (n : Nat) (k : Nat) (fm : Nat → Int32) (M1 : mm_M) (H : Heap) (locs : List Loc) (ls : Array Slot), (64 < k + n) → (k ≤ 64) → (yS G M1 md v6 v9 v11 v12 v13 v22 (1 + k) fm d1) → (M1 (md 5) = some (ia G 1152 fs)) → (M1 (md 6) = some (ia G 96 fl)) → (M1 (md 15) = some (ia G 512 t2)) → (∀ j, j < 1 + k → fm j = (lmsg2 (lvl fc ln e (2 * u)) (lvl fc ln e (2 * u + 1))) j) → (mm_fr [md 0, md 10, md 11, md 13, md 14, md 15] M M1) → mm_R G s (mm_A M sz) M1 H locs → lv_has ls 5 [(0, .ref (md 0)), (1, .int (nI jj)), (2, .int (nI nn)), (3, .int (nI u)), (4, .int (nI k))] → W p0 l e0 ({ frames := 3, cells := 0, slots := 0, locals := 150 } : Room) s m0 ([.ref (md 0), .int (nI jj)] : List Value).toArray be0 me0 c0 H locs 0 0 (MQ be0 (va_Qv (fun M' => ∃ f' d' t', yS G M' md v6 v9 v11 v12 v13 v22 0 f' d' ∧ M' (md 15) = some (ia G 512 t') ∧ (∀ k, k < 32 → t' k = root (fun x => fs (192 * jj + x)) ln k) ∧ mm_fr [md 0, md 10, md 11, md 13, md 14, md 15] M M') (fun M' t => mm_H G (mm_A M sz) M' t.heap) (mm_A M sz)) ([.ref (md 0), .int (nI jj)] : List Value).toArray s 0 0 (mm_A M sz)) (F0 m0 143 ls []) := by
                      intro n
                      induction n with
                      | zero =>
                        intro k fm M1 H locs ls hn hi hS h5 h6 h15 hm hF hR hl
                        omega
                      | succ n ih =>
                        intro k fm M1 H locs ls hn hi hS h5 h6 h15 hm hF hR hl
                        have h0 : M1 (md 0) = some (ob 10 [.ref (md 1), .ref (md 2), .ref (md 3), .ref (md 4), .ref (md 5), .ref (md 6), .int v6, .ref (md 7), .ref (md 8), .int v9, .ref (md 9), .int v11, .int v12, .int v13, .ref (md 10), .int (nI (1 + k)), .ref (md 11), .ref (md 12), .ref (md 13), .ref (md 14), .ref (md 15), .ref (md 16), .int v22]) := hS.1
                        have h10 : M1 (md 10) = some (ia G 256 fm) := hS.2.1
                        have h11 : M1 (md 11) = some (ia G 32 d1) := hS.2.2.1
                        refine lv_iload hx hb dX9_findRoot_143 (lv_at hl 4 rfl) ?_
                        refine lv_bipush (v := nI 64) hx hb dX9_findRoot_145 (by decide) ?_
                        refine lv_icmp_ge (tgt := 172) hx hb dX9_findRoot_147 (by decide) (fun c32 => ?_) (fun c32 => ?_)
                        · have c32 : 64 ≤ k := (nI_leI (a := 64) (b := k) (by omega) (by omega)).mp c32
                          have e4 : 64 = k := by omega
                          subst e4
                          refine lv_aload_n hx hb dX9_findRoot_172 rfl (lv_at hl 0 rfl) ?_
                          refine mm_callv hA hR (va_runV (As := []) (rest := []) S (c_X9_hash l G M1 _ md _ _ _ _ _ _ _ _ _ hJ hS (by omega)) (cwV 0 S.2.2.2.2 gX9_findRoot_X9_hash rfl rfl rfl (by decide +kernel) ⟨Nat.le_of_ble_eq_true rfl, Nat.le_of_ble_eq_true rfl⟩) (mm_preV hC hA hR _ h0 rfl) rfl rfl hl.1 rfl (lv_room (Nat.le_of_ble_eq_true rfl)) dX9_findRoot_173 ⟨Nat.le_of_ble_eq_true rfl, Nat.le_of_ble_eq_true rfl⟩) (fun M34 H locs hp hR => ?_)
                          obtain ⟨fb, d2, hS, hd, ff⟩ := hp
                          have h5 := ff.at h5 (mm_nc (yne hJ (by decide) (by decide) (by decide)) (mm_nc (yne hJ (by decide) (by decide) (by decide)) (mm_nc (yne hJ (by decide) (by decide) (by decide)) (mm_nc (yne hJ (by decide) (by decide) (by decide)) (mm_nc (yne hJ (by decide) (by decide) (by decide)) mm_n0)))))
                          have h6 := ff.at h6 (mm_nc (yne hJ (by decide) (by decide) (by decide)) (mm_nc (yne hJ (by decide) (by decide) (by decide)) (mm_nc (yne hJ (by decide) (by decide) (by decide)) (mm_nc (yne hJ (by decide) (by decide) (by decide)) (mm_nc (yne hJ (by decide) (by decide) (by decide)) mm_n0)))))
                          have h15 := ff.at h15 (mm_nc (yne hJ (by decide) (by decide) (by decide)) (mm_nc (yne hJ (by decide) (by decide) (by decide)) (mm_nc (yne hJ (by decide) (by decide) (by decide)) (mm_nc (yne hJ (by decide) (by decide) (by decide)) (mm_nc (yne hJ (by decide) (by decide) (by decide)) mm_n0)))))
                          have h0 : M34 (md 0) = some (ob 10 [.ref (md 1), .ref (md 2), .ref (md 3), .ref (md 4), .ref (md 5), .ref (md 6), .int v6, .ref (md 7), .ref (md 8), .int v9, .ref (md 9), .int v11, .int v12, .int v13, .ref (md 10), .int (nI 0), .ref (md 11), .ref (md 12), .ref (md 13), .ref (md 14), .ref (md 15), .ref (md 16), .int v22]) := hS.1
                          have h10 : M34 (md 10) = some (ia G 256 fb) := hS.2.1
                          have h11 : M34 (md 11) = some (ia G 32 d2) := hS.2.2.1
                          have hF := hF.tr ff (mm_ic 0 rfl (mm_ic 1 rfl (mm_ic 2 rfl (mm_ic 3 rfl (mm_ic 4 rfl mm_i0)))))
                          have hd : ∀ k, k < 32 → d2 k = lvl fc ln (e + 1) u k := fun i hi => by rw [hd i hi, dgb_ag hm]; rfl
                          refine lv_iconst (v := nI 0) hx hb dX9_findRoot_176 (by decide) ?_
                          refine lv_istore (lv' := [(4, .int (nI 0)), (0, .ref (md 0)), (1, .int (nI jj)), (2, .int (nI nn)), (3, .int (nI u))]) hx hb dX9_findRoot_177 hl (by decide) rfl (fun ls hl => ?_)
                          have loopV : ∀ (n : Nat) (k : Nat)  (M1 : mm_M) (H : Heap) (locs : List Loc) (ls : Array Slot), (32 < k + n) → (k ≤ 32) → (yS G M1 md v6 v9 v11 v12 v13 v22 0 fb d2) → (M1 (md 5) = some (ia G 1152 fs)) → (M1 (md 6) = some (ia G 96 fl)) → (M1 (md 15) = some (ia G 512 (va_cpy d2 t2 0 (32 * u) k))) → (mm_fr [md 0, md 10, md 11, md 13, md 14, md 15] M M1) → mm_R G s (mm_A M sz) M1 H locs → lv_has ls 5 [(0, .ref (md 0)), (1, .int (nI jj)), (2, .int (nI nn)), (3, .int (nI u)), (4, .int (nI k))] → W p0 l e0 ({ frames := 3, cells := 0, slots := 0, locals := 150 } : Room) s m0 ([.ref (md 0), .int (nI jj)] : List Value).toArray be0 me0 c0 H locs 0 0 (MQ be0 (va_Qv (fun M' => ∃ f' d' t', yS G M' md v6 v9 v11 v12 v13 v22 0 f' d' ∧ M' (md 15) = some (ia G 512 t') ∧ (∀ k, k < 32 → t' k = root (fun x => fs (192 * jj + x)) ln k) ∧ mm_fr [md 0, md 10, md 11, md 13, md 14, md 15] M M') (fun M' t => mm_H G (mm_A M sz) M' t.heap) (mm_A M sz)) ([.ref (md 0), .int (nI jj)] : List Value).toArray s 0 0 (mm_A M sz)) (F0 m0 179 ls []) := by
                            intro n
                            induction n with
                            | zero =>
                              intro k  M1 H locs ls hn hi hS h5 h6 h15 hF hR hl
                              omega
                            | succ n ih =>
                              intro k  M1 H locs ls hn hi hS h5 h6 h15 hF hR hl
                              have h0 : M1 (md 0) = some (ob 10 [.ref (md 1), .ref (md 2), .ref (md 3), .ref (md 4), .ref (md 5), .ref (md 6), .int v6, .ref (md 7), .ref (md 8), .int v9, .ref (md 9), .int v11, .int v12, .int v13, .ref (md 10), .int (nI 0), .ref (md 11), .ref (md 12), .ref (md 13), .ref (md 14), .ref (md 15), .ref (md 16), .int v22]) := hS.1
                              have h10 : M1 (md 10) = some (ia G 256 fb) := hS.2.1
                              have h11 : M1 (md 11) = some (ia G 32 d2) := hS.2.2.1
                              refine lv_iload hx hb dX9_findRoot_179 (lv_at hl 4 rfl) ?_
                              refine lv_bipush (v := nI 32) hx hb dX9_findRoot_181 (by decide) ?_
                              refine lv_icmp_ge (tgt := 211) hx hb dX9_findRoot_183 (by decide) (fun c35 => ?_) (fun c35 => ?_)
                              · have c35 : 32 ≤ k := (nI_leI (a := 32) (b := k) (by omega) (by omega)).mp c35
                                have e4 : 32 = k := by omega
                                subst e4
                                refine lv_iinc (v := (nI (u + 1))) (lv' := [(3, .int (nI (u + 1))), (0, .ref (md 0)), (1, .int (nI jj)), (2, .int (nI nn)), (4, .int (nI 32))]) hx hb dX9_findRoot_211 hl (k := 3) rfl (by rw [show Int32.ofInt 1 = nI 1 from by decide]; exact nI_add _ _) (by decide) rfl (fun ls hl => ?_)
                                refine lv_goto (tgt := 130) hx hb dX9_findRoot_214 (by decide) ?_
                                exact ihU (u + 1) _ _ _ _ H locs ls (by omega) (by omega) hS h5 h6 h15 (tree_set hP hd) (fun q h1 h2 k hk => by rw [cpy_out (by omega)]; exact hQ q (by omega) h2 k hk) hF hR (lv_sub hl [1, 2, 3, 0] rfl)
                              · have c35 : ¬ (32 ≤ k) := fun z => c35 ((nI_leI (a := 32) (b := k) (by omega) (by omega)).mpr z)
                                refine lv_aload_n hx hb dX9_findRoot_186 rfl (lv_at hl 0 rfl) ?_
                                refine mm_get S hC hR (C := RX9) (T := TX9) (N := 23) (ref := "ForkWatchModel") (v := .ref (md 15)) 20 h0 inRX9 rfl (by decide) (by decide +kernel) (fun _ h9 => h9) rfl dX9_findRoot_187 ?_
                                refine lv_bipush (v := nI 32) hx hb dX9_findRoot_190 (by decide) ?_
                                refine lv_iload_n hx hb dX9_findRoot_192 rfl (lv_at hl 3 rfl) ?_
                                refine lv_imul hx hb dX9_findRoot_193 ?_
                                refine mm_eqi (pk_mul _ _) ?_
                                refine lv_iload hx hb dX9_findRoot_194 (lv_at hl 4 rfl) ?_
                                refine lv_iadd hx hb dX9_findRoot_196 ?_
                                refine mm_eqi (nI_add _ _) ?_
                                refine lv_aload_n hx hb dX9_findRoot_197 rfl (lv_at hl 0 rfl) ?_
                                refine mm_get S hC hR (C := RX9) (T := TX9) (N := 23) (ref := "ForkWatchModel") (v := .ref (md 11)) 16 h0 inRX9 rfl (by decide) (by decide +kernel) (fun _ h9 => h9) rfl dX9_findRoot_198 ?_
                                refine lv_iload hx hb dX9_findRoot_201 (lv_at hl 4 rfl) ?_
                                refine mm_iald S hC hR h11 (j := k) (by omega) (by omega) dX9_findRoot_203 ?_
                                refine mm_iast S hC hR h15 (j := (32 * u + k)) (by omega) (by omega) dX9_findRoot_204 (fun H locs M36 g38 f37 hR => ?_)
                                have h5 := f37.at h5 (mm_nc (yne hJ (by decide) (by decide) (by decide)) mm_n0)
                                have h6 := f37.at h6 (mm_nc (yne hJ (by decide) (by decide) (by decide)) mm_n0)
                                have h0 := f37.at h0 (mm_nc (yne hJ (by decide) (by decide) (by decide)) mm_n0)
                                have h10 := f37.at h10 (mm_nc (yne hJ (by decide) (by decide) (by decide)) mm_n0)
                                have h11 := f37.at h11 (mm_nc (yne hJ (by decide) (by decide) (by decide)) mm_n0)
                                have h15 : M36 (md 15) = some (ia G 512 (upd (va_cpy d2 t2 0 (32 * u) k) (32 * u + k) (d2 k))) := g38
                                have hF := hF.tr f37 (mm_ic 5 rfl mm_i0)
                                have hS := hS.out f37 (mm_nc (yne hJ (by decide) (by decide) (by decide)) mm_n0) (mm_nc (yne hJ (by decide) (by decide) (by decide)) mm_n0) (mm_nc (yne hJ (by decide) (by decide) (by decide)) mm_n0) (mm_nc (yne hJ (by decide) (by decide) (by decide)) mm_n0) (mm_nc (yne hJ (by decide) (by decide) (by decide)) mm_n0) (mm_nc (yne hJ (by decide) (by decide) (by decide)) mm_n0) (mm_nc (yne hJ (by decide) (by decide) (by decide)) mm_n0) (mm_nc (yne hJ (by decide) (by decide) (by decide)) mm_n0)
                                refine lv_iinc (v := (nI (k + 1))) (lv' := [(4, .int (nI (k + 1))), (0, .ref (md 0)), (1, .int (nI jj)), (2, .int (nI nn)), (3, .int (nI u))]) hx hb dX9_findRoot_205 hl (k := 4) rfl (by rw [show Int32.ofInt 1 = nI 1 from by decide]; exact nI_add _ _) (by decide) rfl (fun ls hl => ?_)
                                refine lv_goto (tgt := 179) hx hb dX9_findRoot_208 (by decide) ?_
                                exact ih (k + 1)  _ H locs ls (by omega) (by omega) hS h5 h6 (cellE h15 (cpy_sz rfl)) hF hR (lv_sub hl [1, 2, 3, 4, 0] rfl)
                          exact loopV (32 + 1) 0  _ _ _ ls (by omega) (by omega) hS h5 h6 (cellE h15 cpy_0.symm) hF hR (lv_sub hl [1, 2, 3, 4, 0] rfl)
                        · have c32 : ¬ (64 ≤ k) := fun z => c32 ((nI_leI (a := 64) (b := k) (by omega) (by omega)).mpr z)
                          refine lv_aload_n hx hb dX9_findRoot_150 rfl (lv_at hl 0 rfl) ?_
                          refine lv_aload_n hx hb dX9_findRoot_151 rfl (lv_at hl 0 rfl) ?_
                          refine mm_get S hC hR (C := RX9) (T := TX9) (N := 23) (ref := "ForkWatchModel") (v := .ref (md 15)) 20 h0 inRX9 rfl (by decide) (by decide +kernel) (fun _ h9 => h9) rfl dX9_findRoot_152 ?_
                          refine lv_bipush (v := nI 64) hx hb dX9_findRoot_155 (by decide) ?_
                          refine lv_iload_n hx hb dX9_findRoot_157 rfl (lv_at hl 3 rfl) ?_
                          refine lv_imul hx hb dX9_findRoot_158 ?_
                          refine mm_eqi (pk_mul _ _) ?_
                          refine lv_iload hx hb dX9_findRoot_159 (lv_at hl 4 rfl) ?_
                          refine lv_iadd hx hb dX9_findRoot_161 ?_
                          refine mm_eqi (nI_add _ _) ?_
                          refine mm_iald S hC hR h15 (j := (64 * u + k)) (by omega) (by omega) dX9_findRoot_162 ?_
                          refine mm_callv hA hR (va_runV (As := [.int (t2 (64 * u + k))]) (rest := []) S (c_X9_add l G M1 _ md _ _ _ _ _ _ _ _ _ (t2 (64 * u + k)) hJ hS (by omega)) (cwV 1 S.2.2.2.2 gX9_findRoot_X9_add rfl rfl rfl (by decide +kernel) ⟨Nat.le_of_ble_eq_true rfl, Nat.le_of_ble_eq_true rfl⟩) (mm_preV hC hA hR _ h0 rfl) rfl rfl hl.1 rfl (lv_room (Nat.le_of_ble_eq_true rfl)) dX9_findRoot_163 ⟨Nat.le_of_ble_eq_true rfl, Nat.le_of_ble_eq_true rfl⟩) (fun M40 H locs hp hR => ?_)
                          obtain ⟨hS, ff⟩ := hp
                          have h5 := ff.at h5 (mm_nc (yne hJ (by decide) (by decide) (by decide)) (mm_nc (yne hJ (by decide) (by decide) (by decide)) (mm_nc (yne hJ (by decide) (by decide) (by decide)) (mm_nc (yne hJ (by decide) (by decide) (by decide)) (mm_nc (yne hJ (by decide) (by decide) (by decide)) mm_n0)))))
                          have h6 := ff.at h6 (mm_nc (yne hJ (by decide) (by decide) (by decide)) (mm_nc (yne hJ (by decide) (by decide) (by decide)) (mm_nc (yne hJ (by decide) (by decide) (by decide)) (mm_nc (yne hJ (by decide) (by decide) (by decide)) (mm_nc (yne hJ (by decide) (by decide) (by decide)) mm_n0)))))
                          have h15 := ff.at h15 (mm_nc (yne hJ (by decide) (by decide) (by decide)) (mm_nc (yne hJ (by decide) (by decide) (by decide)) (mm_nc (yne hJ (by decide) (by decide) (by decide)) (mm_nc (yne hJ (by decide) (by decide) (by decide)) (mm_nc (yne hJ (by decide) (by decide) (by decide)) mm_n0)))))
                          have h0 : M40 (md 0) = some (ob 10 [.ref (md 1), .ref (md 2), .ref (md 3), .ref (md 4), .ref (md 5), .ref (md 6), .int v6, .ref (md 7), .ref (md 8), .int v9, .ref (md 9), .int v11, .int v12, .int v13, .ref (md 10), .int (nI (1 + k + 1)), .ref (md 11), .ref (md 12), .ref (md 13), .ref (md 14), .ref (md 15), .ref (md 16), .int v22]) := hS.1
                          have h10 : M40 (md 10) = some (ia G 256 (upd fm (1 + k) ((t2 (64 * u + k)) &&& nI 255))) := hS.2.1
                          have h11 : M40 (md 11) = some (ia G 32 d1) := hS.2.2.1
                          have hF := hF.tr ff (mm_ic 0 rfl (mm_ic 1 rfl (mm_ic 2 rfl (mm_ic 3 rfl (mm_ic 4 rfl mm_i0)))))
                          have hm : ∀ j, j < 1 + k + 1 → (upd fm (1 + k) ((t2 (64 * u + k)) &&& nI 255)) j = (lmsg2 (lvl fc ln e (2 * u)) (lvl fc ln e (2 * u + 1))) j := mt_s hm (lm2 (hQ (2 * u) (by omega) (by omega)) (hQ (2 * u + 1) (by omega) (by omega)) (byt_lvl _ _ _ _) (byt_lvl _ _ _ _) (by omega))
                          refine lv_iinc (v := (nI (k + 1))) (lv' := [(4, .int (nI (k + 1))), (0, .ref (md 0)), (1, .int (nI jj)), (2, .int (nI nn)), (3, .int (nI u))]) hx hb dX9_findRoot_166 hl (k := 4) rfl (by rw [show Int32.ofInt 1 = nI 1 from by decide]; exact nI_add _ _) (by decide) rfl (fun ls hl => ?_)
                          refine lv_goto (tgt := 143) hx hb dX9_findRoot_169 (by decide) ?_
                          exact ih (k + 1) _ _ H locs ls (by omega) (by omega) hS h5 h6 h15 hm hF hR (lv_sub hl [1, 2, 3, 4, 0] rfl)
                    exact loopK (64 + 1) 0 _ _ _ _ ls (by omega) (by omega) hS h5 h6 h15 hm hF hR (lv_sub hl [1, 2, 3, 4, 0] rfl)
              exact loopU (nn + 1) 0 _ _ _ _ _ _ ls (by omega) (by omega) hS h5 h6 h15 (fun q hq => absurd hq (Nat.not_lt_zero q)) (fun q _ h2 => hT q (Or.inl h2)) hF hR (lv_sub hl [1, 2, 3, 0] rfl)
        exact loopB 5 0 8 _ _ _ _ _ _ ls (by omega) (by omega) hS h5 h6 h15 hT hF hR (lv_sub hl [1, 2, 0] rfl)
      · have c27 : ¬ (16 ≤ x) := fun z => c27 ((nI_leI (a := 16) (b := x) (by omega) (by omega)).mpr z)
        have ihA := ih
        have hlx := (hln x (by omega)).2
        refine lv_bipush (v := nI 16) hx hb dX9_findRoot_8 (by decide) ?_
        refine lv_iload_n hx hb dX9_findRoot_10 rfl (lv_at hl 1 rfl) ?_
        refine lv_imul hx hb dX9_findRoot_11 ?_
        refine mm_eqi (pk_mul _ _) ?_
        refine lv_iload_n hx hb dX9_findRoot_12 rfl (lv_at hl 2 rfl) ?_
        refine lv_iadd hx hb dX9_findRoot_13 ?_
        refine mm_eqi (nI_add _ _) ?_
        refine lv_istore_n (lv' := [(3, .int (nI (16 * jj + x))), (0, .ref (md 0)), (1, .int (nI jj)), (2, .int (nI x))]) hx hb dX9_findRoot_14 rfl hl (by decide) rfl (fun ls hl => ?_)
        refine lv_aload_n hx hb dX9_findRoot_15 rfl (lv_at hl 1 rfl) ?_
        refine lv_iconst (v := nI 0) hx hb dX9_findRoot_16 (by decide) ?_
        refine mm_put S hC hR (C := RX9) (T := TX9) (N := 23) (ref := "ForkWatchModel") 15 h0 inRX9 rfl tyX9_ok nmX9 (by decide) (by decide +kernel) (fun _ h9 => h9) rfl rfl rfl (Nat.le_of_ble_eq_true rfl) dX9_findRoot_17 (fun H locs M41 g43 f42 hR => ?_)
        have h5 := f42.at h5 (mm_nc (yne hJ (by decide) (by decide) (by decide)) mm_n0)
        have h6 := f42.at h6 (mm_nc (yne hJ (by decide) (by decide) (by decide)) mm_n0)
        have h15 := f42.at h15 (mm_nc (yne hJ (by decide) (by decide) (by decide)) mm_n0)
        have h10 := f42.at h10 (mm_nc (yne hJ (by decide) (by decide) (by decide)) mm_n0)
        have h11 := f42.at h11 (mm_nc (yne hJ (by decide) (by decide) (by decide)) mm_n0)
        have h0 : M41 (md 0) = some (ob 10 [.ref (md 1), .ref (md 2), .ref (md 3), .ref (md 4), .ref (md 5), .ref (md 6), .int v6, .ref (md 7), .ref (md 8), .int v9, .ref (md 9), .int v11, .int v12, .int v13, .ref (md 10), .int (nI 0), .ref (md 11), .ref (md 12), .ref (md 13), .ref (md 14), .ref (md 15), .ref (md 16), .int v22]) := g43
        have hF := hF.tr f42 (mm_ic 0 rfl mm_i0)
        have hS := hS.ob hJ f42 h0
        refine lv_aload_n hx hb dX9_findRoot_20 rfl (lv_at hl 1 rfl) ?_
        refine lv_iconst (v := nI 0) hx hb dX9_findRoot_21 (by decide) ?_
        have hm : ∀ j, j < 0 → fm j = (lmsg fc x (ln x)) j := (fun j hj => absurd hj (Nat.not_lt_zero j))
        refine mm_callv hA hR (va_runV (As := [.int (nI 0)]) (rest := []) S (c_X9_add l G M41 _ md _ _ _ _ _ _ _ _ _ (nI 0) hJ hS (by omega)) (cwV 1 S.2.2.2.2 gX9_findRoot_X9_add rfl rfl rfl (by decide +kernel) ⟨Nat.le_of_ble_eq_true rfl, Nat.le_of_ble_eq_true rfl⟩) (mm_preV hC hA hR _ h0 rfl) rfl rfl hl.1 rfl (lv_room (Nat.le_of_ble_eq_true rfl)) dX9_findRoot_22 ⟨Nat.le_of_ble_eq_true rfl, Nat.le_of_ble_eq_true rfl⟩) (fun M45 H locs hp hR => ?_)
        obtain ⟨hS, ff⟩ := hp
        have h5 := ff.at h5 (mm_nc (yne hJ (by decide) (by decide) (by decide)) (mm_nc (yne hJ (by decide) (by decide) (by decide)) (mm_nc (yne hJ (by decide) (by decide) (by decide)) (mm_nc (yne hJ (by decide) (by decide) (by decide)) (mm_nc (yne hJ (by decide) (by decide) (by decide)) mm_n0)))))
        have h6 := ff.at h6 (mm_nc (yne hJ (by decide) (by decide) (by decide)) (mm_nc (yne hJ (by decide) (by decide) (by decide)) (mm_nc (yne hJ (by decide) (by decide) (by decide)) (mm_nc (yne hJ (by decide) (by decide) (by decide)) (mm_nc (yne hJ (by decide) (by decide) (by decide)) mm_n0)))))
        have h15 := ff.at h15 (mm_nc (yne hJ (by decide) (by decide) (by decide)) (mm_nc (yne hJ (by decide) (by decide) (by decide)) (mm_nc (yne hJ (by decide) (by decide) (by decide)) (mm_nc (yne hJ (by decide) (by decide) (by decide)) (mm_nc (yne hJ (by decide) (by decide) (by decide)) mm_n0)))))
        have h0 : M45 (md 0) = some (ob 10 [.ref (md 1), .ref (md 2), .ref (md 3), .ref (md 4), .ref (md 5), .ref (md 6), .int v6, .ref (md 7), .ref (md 8), .int v9, .ref (md 9), .int v11, .int v12, .int v13, .ref (md 10), .int (nI 1), .ref (md 11), .ref (md 12), .ref (md 13), .ref (md 14), .ref (md 15), .ref (md 16), .int v22]) := hS.1
        have h10 : M45 (md 10) = some (ia G 256 (upd fm 0 ((nI 0) &&& nI 255))) := hS.2.1
        have h11 : M45 (md 11) = some (ia G 32 d1) := hS.2.2.1
        have hF := hF.tr ff (mm_ic 0 rfl (mm_ic 1 rfl (mm_ic 2 rfl (mm_ic 3 rfl (mm_ic 4 rfl mm_i0)))))
        have hm : ∀ j, j < 1 → (upd fm 0 ((nI 0) &&& nI 255)) j = (lmsg fc x (ln x)) j := mt_s hm (show nI 0 &&& nI 255 = nI 0 from by decide)
        refine lv_aload_n hx hb dX9_findRoot_25 rfl (lv_at hl 1 rfl) ?_
        refine lv_iload_n hx hb dX9_findRoot_26 rfl (lv_at hl 3 rfl) ?_
        refine mm_callv hA hR (va_runV (As := [.int (nI x)]) (rest := []) S (c_X9_add l G M45 _ md _ _ _ _ _ _ _ _ _ (nI x) hJ hS (by omega)) (cwV 1 S.2.2.2.2 gX9_findRoot_X9_add rfl rfl rfl (by decide +kernel) ⟨Nat.le_of_ble_eq_true rfl, Nat.le_of_ble_eq_true rfl⟩) (mm_preV hC hA hR _ h0 rfl) rfl rfl hl.1 rfl (lv_room (Nat.le_of_ble_eq_true rfl)) dX9_findRoot_27 ⟨Nat.le_of_ble_eq_true rfl, Nat.le_of_ble_eq_true rfl⟩) (fun M47 H locs hp hR => ?_)
        obtain ⟨hS, ff⟩ := hp
        have h5 := ff.at h5 (mm_nc (yne hJ (by decide) (by decide) (by decide)) (mm_nc (yne hJ (by decide) (by decide) (by decide)) (mm_nc (yne hJ (by decide) (by decide) (by decide)) (mm_nc (yne hJ (by decide) (by decide) (by decide)) (mm_nc (yne hJ (by decide) (by decide) (by decide)) mm_n0)))))
        have h6 := ff.at h6 (mm_nc (yne hJ (by decide) (by decide) (by decide)) (mm_nc (yne hJ (by decide) (by decide) (by decide)) (mm_nc (yne hJ (by decide) (by decide) (by decide)) (mm_nc (yne hJ (by decide) (by decide) (by decide)) (mm_nc (yne hJ (by decide) (by decide) (by decide)) mm_n0)))))
        have h15 := ff.at h15 (mm_nc (yne hJ (by decide) (by decide) (by decide)) (mm_nc (yne hJ (by decide) (by decide) (by decide)) (mm_nc (yne hJ (by decide) (by decide) (by decide)) (mm_nc (yne hJ (by decide) (by decide) (by decide)) (mm_nc (yne hJ (by decide) (by decide) (by decide)) mm_n0)))))
        have h0 : M47 (md 0) = some (ob 10 [.ref (md 1), .ref (md 2), .ref (md 3), .ref (md 4), .ref (md 5), .ref (md 6), .int v6, .ref (md 7), .ref (md 8), .int v9, .ref (md 9), .int v11, .int v12, .int v13, .ref (md 10), .int (nI 2), .ref (md 11), .ref (md 12), .ref (md 13), .ref (md 14), .ref (md 15), .ref (md 16), .int v22]) := hS.1
        have h10 : M47 (md 10) = some (ia G 256 (upd (upd fm 0 ((nI 0) &&& nI 255)) 1 ((nI x) &&& nI 255))) := hS.2.1
        have h11 : M47 (md 11) = some (ia G 32 d1) := hS.2.2.1
        have hF := hF.tr ff (mm_ic 0 rfl (mm_ic 1 rfl (mm_ic 2 rfl (mm_ic 3 rfl (mm_ic 4 rfl mm_i0)))))
        have hm : ∀ j, j < 2 → (upd (upd fm 0 ((nI 0) &&& nI 255)) 1 ((nI x) &&& nI 255)) j = (lmsg fc x (ln x)) j := mt_s hm (show nI x &&& nI 255 = nI x from byt_nI x (by omega))
        refine lv_aload_n hx hb dX9_findRoot_30 rfl (lv_at hl 1 rfl) ?_
        refine lv_aload_n hx hb dX9_findRoot_31 rfl (lv_at hl 1 rfl) ?_
        refine mm_get S hC hR (C := RX9) (T := TX9) (N := 23) (ref := "ForkWatchModel") (v := .ref (md 6)) 5 h0 inRX9 rfl (by decide) (by decide +kernel) (fun _ h9 => h9) rfl dX9_findRoot_32 ?_
        refine lv_iload_n hx hb dX9_findRoot_35 rfl (lv_at hl 0 rfl) ?_
        refine mm_iald S hC hR h6 (j := (16 * jj + x)) (by omega) (by omega) dX9_findRoot_36 ?_
        refine mm_eqi (hln x (by omega)).1 ?_
        refine mm_callv hA hR (va_runV (As := [.int (nI (ln x))]) (rest := []) S (c_X9_add l G M47 _ md _ _ _ _ _ _ _ _ _ (nI (ln x)) hJ hS (by omega)) (cwV 1 S.2.2.2.2 gX9_findRoot_X9_add rfl rfl rfl (by decide +kernel) ⟨Nat.le_of_ble_eq_true rfl, Nat.le_of_ble_eq_true rfl⟩) (mm_preV hC hA hR _ h0 rfl) rfl rfl hl.1 rfl (lv_room (Nat.le_of_ble_eq_true rfl)) dX9_findRoot_37 ⟨Nat.le_of_ble_eq_true rfl, Nat.le_of_ble_eq_true rfl⟩) (fun M49 H locs hp hR => ?_)
        obtain ⟨hS, ff⟩ := hp
        have h5 := ff.at h5 (mm_nc (yne hJ (by decide) (by decide) (by decide)) (mm_nc (yne hJ (by decide) (by decide) (by decide)) (mm_nc (yne hJ (by decide) (by decide) (by decide)) (mm_nc (yne hJ (by decide) (by decide) (by decide)) (mm_nc (yne hJ (by decide) (by decide) (by decide)) mm_n0)))))
        have h6 := ff.at h6 (mm_nc (yne hJ (by decide) (by decide) (by decide)) (mm_nc (yne hJ (by decide) (by decide) (by decide)) (mm_nc (yne hJ (by decide) (by decide) (by decide)) (mm_nc (yne hJ (by decide) (by decide) (by decide)) (mm_nc (yne hJ (by decide) (by decide) (by decide)) mm_n0)))))
        have h15 := ff.at h15 (mm_nc (yne hJ (by decide) (by decide) (by decide)) (mm_nc (yne hJ (by decide) (by decide) (by decide)) (mm_nc (yne hJ (by decide) (by decide) (by decide)) (mm_nc (yne hJ (by decide) (by decide) (by decide)) (mm_nc (yne hJ (by decide) (by decide) (by decide)) mm_n0)))))
        have h0 : M49 (md 0) = some (ob 10 [.ref (md 1), .ref (md 2), .ref (md 3), .ref (md 4), .ref (md 5), .ref (md 6), .int v6, .ref (md 7), .ref (md 8), .int v9, .ref (md 9), .int v11, .int v12, .int v13, .ref (md 10), .int (nI 3), .ref (md 11), .ref (md 12), .ref (md 13), .ref (md 14), .ref (md 15), .ref (md 16), .int v22]) := hS.1
        have h10 : M49 (md 10) = some (ia G 256 (upd (upd (upd fm 0 ((nI 0) &&& nI 255)) 1 ((nI x) &&& nI 255)) 2 ((nI (ln x)) &&& nI 255))) := hS.2.1
        have h11 : M49 (md 11) = some (ia G 32 d1) := hS.2.2.1
        have hF := hF.tr ff (mm_ic 0 rfl (mm_ic 1 rfl (mm_ic 2 rfl (mm_ic 3 rfl (mm_ic 4 rfl mm_i0)))))
        have hm : ∀ j, j < 3 → (upd (upd (upd fm 0 ((nI 0) &&& nI 255)) 1 ((nI x) &&& nI 255)) 2 ((nI (ln x)) &&& nI 255)) j = (lmsg fc x (ln x)) j := mt_s hm (show nI (ln x) &&& nI 255 = nI (ln x) from byt_nI _ (by omega))
        obtain ⟨fm50, efm50⟩ : ∃ z : Nat → Int32, z = upd (upd (upd fm 0 ((nI 0) &&& nI 255)) 1 ((nI x) &&& nI 255)) 2 ((nI (ln x)) &&& nI 255) := ⟨_, rfl⟩
        rw [← efm50] at h10
        rw [← efm50] at hS hm
        refine lv_iconst (v := nI 0) hx hb dX9_findRoot_40 (by decide) ?_
        refine lv_istore (lv' := [(4, .int (nI 0)), (3, .int (nI (16 * jj + x))), (0, .ref (md 0)), (1, .int (nI jj)), (2, .int (nI x))]) hx hb dX9_findRoot_41 hl (by decide) rfl (fun ls hl => ?_)
        have loopF : ∀ (n : Nat) (k : Nat) (fm : Nat → Int32) (M1 : mm_M) (H : Heap) (locs : List Loc) (ls : Array Slot), (ln x < k + n) → (k ≤ ln x) → (yS G M1 md v6 v9 v11 v12 v13 v22 (3 + k) fm d1) → (M1 (md 5) = some (ia G 1152 fs)) → (M1 (md 6) = some (ia G 96 fl)) → (M1 (md 15) = some (ia G 512 t1)) → (∀ j, j < 3 + k → fm j = (lmsg fc x (ln x)) j) → (mm_fr [md 0, md 10, md 11, md 13, md 14, md 15] M M1) → mm_R G s (mm_A M sz) M1 H locs → lv_has ls 5 [(0, .ref (md 0)), (1, .int (nI jj)), (2, .int (nI x)), (3, .int (nI (16 * jj + x))), (4, .int (nI k))] → W p0 l e0 ({ frames := 3, cells := 0, slots := 0, locals := 150 } : Room) s m0 ([.ref (md 0), .int (nI jj)] : List Value).toArray be0 me0 c0 H locs 0 0 (MQ be0 (va_Qv (fun M' => ∃ f' d' t', yS G M' md v6 v9 v11 v12 v13 v22 0 f' d' ∧ M' (md 15) = some (ia G 512 t') ∧ (∀ k, k < 32 → t' k = root (fun x => fs (192 * jj + x)) ln k) ∧ mm_fr [md 0, md 10, md 11, md 13, md 14, md 15] M M') (fun M' t => mm_H G (mm_A M sz) M' t.heap) (mm_A M sz)) ([.ref (md 0), .int (nI jj)] : List Value).toArray s 0 0 (mm_A M sz)) (F0 m0 43 ls []) := by
          intro n
          induction n with
          | zero =>
            intro k fm M1 H locs ls hn hi hS h5 h6 h15 hm hF hR hl
            omega
          | succ n ih =>
            intro k fm M1 H locs ls hn hi hS h5 h6 h15 hm hF hR hl
            have h0 : M1 (md 0) = some (ob 10 [.ref (md 1), .ref (md 2), .ref (md 3), .ref (md 4), .ref (md 5), .ref (md 6), .int v6, .ref (md 7), .ref (md 8), .int v9, .ref (md 9), .int v11, .int v12, .int v13, .ref (md 10), .int (nI (3 + k)), .ref (md 11), .ref (md 12), .ref (md 13), .ref (md 14), .ref (md 15), .ref (md 16), .int v22]) := hS.1
            have h10 : M1 (md 10) = some (ia G 256 fm) := hS.2.1
            have h11 : M1 (md 11) = some (ia G 32 d1) := hS.2.2.1
            refine lv_iload hx hb dX9_findRoot_43 (lv_at hl 4 rfl) ?_
            refine lv_aload_n hx hb dX9_findRoot_45 rfl (lv_at hl 0 rfl) ?_
            refine mm_get S hC hR (C := RX9) (T := TX9) (N := 23) (ref := "ForkWatchModel") (v := .ref (md 6)) 5 h0 inRX9 rfl (by decide) (by decide +kernel) (fun _ h9 => h9) rfl dX9_findRoot_46 ?_
            refine lv_iload_n hx hb dX9_findRoot_49 rfl (lv_at hl 3 rfl) ?_
            refine mm_iald S hC hR h6 (j := (16 * jj + x)) (by omega) (by omega) dX9_findRoot_50 ?_
            refine mm_eqi (hln x (by omega)).1 ?_
            refine lv_icmp_ge (tgt := 76) hx hb dX9_findRoot_51 (by decide) (fun c51 => ?_) (fun c51 => ?_)
            · have c51 : ln x ≤ k := (nI_leI (a := ln x) (b := k) (by omega) (by omega)).mp c51
              have e4 : ln x = k := by omega
              subst e4
              refine lv_aload_n hx hb dX9_findRoot_76 rfl (lv_at hl 0 rfl) ?_
              refine mm_callv hA hR (va_runV (As := []) (rest := []) S (c_X9_hash l G M1 _ md _ _ _ _ _ _ _ _ _ hJ hS (by omega)) (cwV 0 S.2.2.2.2 gX9_findRoot_X9_hash rfl rfl rfl (by decide +kernel) ⟨Nat.le_of_ble_eq_true rfl, Nat.le_of_ble_eq_true rfl⟩) (mm_preV hC hA hR _ h0 rfl) rfl rfl hl.1 rfl (lv_room (Nat.le_of_ble_eq_true rfl)) dX9_findRoot_77 ⟨Nat.le_of_ble_eq_true rfl, Nat.le_of_ble_eq_true rfl⟩) (fun M53 H locs hp hR => ?_)
              obtain ⟨fb, d2, hS, hd, ff⟩ := hp
              have h5 := ff.at h5 (mm_nc (yne hJ (by decide) (by decide) (by decide)) (mm_nc (yne hJ (by decide) (by decide) (by decide)) (mm_nc (yne hJ (by decide) (by decide) (by decide)) (mm_nc (yne hJ (by decide) (by decide) (by decide)) (mm_nc (yne hJ (by decide) (by decide) (by decide)) mm_n0)))))
              have h6 := ff.at h6 (mm_nc (yne hJ (by decide) (by decide) (by decide)) (mm_nc (yne hJ (by decide) (by decide) (by decide)) (mm_nc (yne hJ (by decide) (by decide) (by decide)) (mm_nc (yne hJ (by decide) (by decide) (by decide)) (mm_nc (yne hJ (by decide) (by decide) (by decide)) mm_n0)))))
              have h15 := ff.at h15 (mm_nc (yne hJ (by decide) (by decide) (by decide)) (mm_nc (yne hJ (by decide) (by decide) (by decide)) (mm_nc (yne hJ (by decide) (by decide) (by decide)) (mm_nc (yne hJ (by decide) (by decide) (by decide)) (mm_nc (yne hJ (by decide) (by decide) (by decide)) mm_n0)))))
              have h0 : M53 (md 0) = some (ob 10 [.ref (md 1), .ref (md 2), .ref (md 3), .ref (md 4), .ref (md 5), .ref (md 6), .int v6, .ref (md 7), .ref (md 8), .int v9, .ref (md 9), .int v11, .int v12, .int v13, .ref (md 10), .int (nI 0), .ref (md 11), .ref (md 12), .ref (md 13), .ref (md 14), .ref (md 15), .ref (md 16), .int v22]) := hS.1
              have h10 : M53 (md 10) = some (ia G 256 fb) := hS.2.1
              have h11 : M53 (md 11) = some (ia G 32 d2) := hS.2.2.1
              have hF := hF.tr ff (mm_ic 0 rfl (mm_ic 1 rfl (mm_ic 2 rfl (mm_ic 3 rfl (mm_ic 4 rfl mm_i0)))))
              have hd : ∀ k, k < 32 → d2 k = lvl fc ln 0 x k := fun i hi => by rw [hd i hi, dgb_ag hm]; rfl
              refine lv_iconst (v := nI 0) hx hb dX9_findRoot_80 (by decide) ?_
              refine lv_istore (lv' := [(4, .int (nI 0)), (0, .ref (md 0)), (1, .int (nI jj)), (2, .int (nI x)), (3, .int (nI (16 * jj + x)))]) hx hb dX9_findRoot_81 hl (by decide) rfl (fun ls hl => ?_)
              have loopV : ∀ (n : Nat) (k : Nat)  (M1 : mm_M) (H : Heap) (locs : List Loc) (ls : Array Slot), (32 < k + n) → (k ≤ 32) → (yS G M1 md v6 v9 v11 v12 v13 v22 0 fb d2) → (M1 (md 5) = some (ia G 1152 fs)) → (M1 (md 6) = some (ia G 96 fl)) → (M1 (md 15) = some (ia G 512 (va_cpy d2 t1 0 (32 * x) k))) → (mm_fr [md 0, md 10, md 11, md 13, md 14, md 15] M M1) → mm_R G s (mm_A M sz) M1 H locs → lv_has ls 5 [(0, .ref (md 0)), (1, .int (nI jj)), (2, .int (nI x)), (3, .int (nI (16 * jj + x))), (4, .int (nI k))] → W p0 l e0 ({ frames := 3, cells := 0, slots := 0, locals := 150 } : Room) s m0 ([.ref (md 0), .int (nI jj)] : List Value).toArray be0 me0 c0 H locs 0 0 (MQ be0 (va_Qv (fun M' => ∃ f' d' t', yS G M' md v6 v9 v11 v12 v13 v22 0 f' d' ∧ M' (md 15) = some (ia G 512 t') ∧ (∀ k, k < 32 → t' k = root (fun x => fs (192 * jj + x)) ln k) ∧ mm_fr [md 0, md 10, md 11, md 13, md 14, md 15] M M') (fun M' t => mm_H G (mm_A M sz) M' t.heap) (mm_A M sz)) ([.ref (md 0), .int (nI jj)] : List Value).toArray s 0 0 (mm_A M sz)) (F0 m0 83 ls []) := by
                intro n
                induction n with
                | zero =>
                  intro k  M1 H locs ls hn hi hS h5 h6 h15 hF hR hl
                  omega
                | succ n ih =>
                  intro k  M1 H locs ls hn hi hS h5 h6 h15 hF hR hl
                  have h0 : M1 (md 0) = some (ob 10 [.ref (md 1), .ref (md 2), .ref (md 3), .ref (md 4), .ref (md 5), .ref (md 6), .int v6, .ref (md 7), .ref (md 8), .int v9, .ref (md 9), .int v11, .int v12, .int v13, .ref (md 10), .int (nI 0), .ref (md 11), .ref (md 12), .ref (md 13), .ref (md 14), .ref (md 15), .ref (md 16), .int v22]) := hS.1
                  have h10 : M1 (md 10) = some (ia G 256 fb) := hS.2.1
                  have h11 : M1 (md 11) = some (ia G 32 d2) := hS.2.2.1
                  refine lv_iload hx hb dX9_findRoot_83 (lv_at hl 4 rfl) ?_
                  refine lv_bipush (v := nI 32) hx hb dX9_findRoot_85 (by decide) ?_
                  refine lv_icmp_ge (tgt := 115) hx hb dX9_findRoot_87 (by decide) (fun c54 => ?_) (fun c54 => ?_)
                  · have c54 : 32 ≤ k := (nI_leI (a := 32) (b := k) (by omega) (by omega)).mp c54
                    have e4 : 32 = k := by omega
                    subst e4
                    refine lv_iinc (v := (nI (x + 1))) (lv' := [(2, .int (nI (x + 1))), (0, .ref (md 0)), (1, .int (nI jj)), (3, .int (nI (16 * jj + x))), (4, .int (nI 32))]) hx hb dX9_findRoot_115 hl (k := 2) rfl (by rw [show Int32.ofInt 1 = nI 1 from by decide]; exact nI_add _ _) (by decide) rfl (fun ls hl => ?_)
                    refine lv_goto (tgt := 2) hx hb dX9_findRoot_118 (by decide) ?_
                    exact ihA (x + 1) _ _ _ _ _ H locs ls (by omega) (by omega) hS h5 h6 h15 (fun _ => rfl) (tree_set hT hd) hF hR (lv_sub hl [1, 2, 0] rfl)
                  · have c54 : ¬ (32 ≤ k) := fun z => c54 ((nI_leI (a := 32) (b := k) (by omega) (by omega)).mpr z)
                    refine lv_aload_n hx hb dX9_findRoot_90 rfl (lv_at hl 0 rfl) ?_
                    refine mm_get S hC hR (C := RX9) (T := TX9) (N := 23) (ref := "ForkWatchModel") (v := .ref (md 15)) 20 h0 inRX9 rfl (by decide) (by decide +kernel) (fun _ h9 => h9) rfl dX9_findRoot_91 ?_
                    refine lv_bipush (v := nI 32) hx hb dX9_findRoot_94 (by decide) ?_
                    refine lv_iload_n hx hb dX9_findRoot_96 rfl (lv_at hl 2 rfl) ?_
                    refine lv_imul hx hb dX9_findRoot_97 ?_
                    refine mm_eqi (pk_mul _ _) ?_
                    refine lv_iload hx hb dX9_findRoot_98 (lv_at hl 4 rfl) ?_
                    refine lv_iadd hx hb dX9_findRoot_100 ?_
                    refine mm_eqi (nI_add _ _) ?_
                    refine lv_aload_n hx hb dX9_findRoot_101 rfl (lv_at hl 0 rfl) ?_
                    refine mm_get S hC hR (C := RX9) (T := TX9) (N := 23) (ref := "ForkWatchModel") (v := .ref (md 11)) 16 h0 inRX9 rfl (by decide) (by decide +kernel) (fun _ h9 => h9) rfl dX9_findRoot_102 ?_
                    refine lv_iload hx hb dX9_findRoot_105 (lv_at hl 4 rfl) ?_
                    refine mm_iald S hC hR h11 (j := k) (by omega) (by omega) dX9_findRoot_107 ?_
                    refine mm_iast S hC hR h15 (j := (32 * x + k)) (by omega) (by omega) dX9_findRoot_108 (fun H locs M55 g57 f56 hR => ?_)
                    have h5 := f56.at h5 (mm_nc (yne hJ (by decide) (by decide) (by decide)) mm_n0)
                    have h6 := f56.at h6 (mm_nc (yne hJ (by decide) (by decide) (by decide)) mm_n0)
                    have h0 := f56.at h0 (mm_nc (yne hJ (by decide) (by decide) (by decide)) mm_n0)
                    have h10 := f56.at h10 (mm_nc (yne hJ (by decide) (by decide) (by decide)) mm_n0)
                    have h11 := f56.at h11 (mm_nc (yne hJ (by decide) (by decide) (by decide)) mm_n0)
                    have h15 : M55 (md 15) = some (ia G 512 (upd (va_cpy d2 t1 0 (32 * x) k) (32 * x + k) (d2 k))) := g57
                    have hF := hF.tr f56 (mm_ic 5 rfl mm_i0)
                    have hS := hS.out f56 (mm_nc (yne hJ (by decide) (by decide) (by decide)) mm_n0) (mm_nc (yne hJ (by decide) (by decide) (by decide)) mm_n0) (mm_nc (yne hJ (by decide) (by decide) (by decide)) mm_n0) (mm_nc (yne hJ (by decide) (by decide) (by decide)) mm_n0) (mm_nc (yne hJ (by decide) (by decide) (by decide)) mm_n0) (mm_nc (yne hJ (by decide) (by decide) (by decide)) mm_n0) (mm_nc (yne hJ (by decide) (by decide) (by decide)) mm_n0) (mm_nc (yne hJ (by decide) (by decide) (by decide)) mm_n0)
                    refine lv_iinc (v := (nI (k + 1))) (lv' := [(4, .int (nI (k + 1))), (0, .ref (md 0)), (1, .int (nI jj)), (2, .int (nI x)), (3, .int (nI (16 * jj + x)))]) hx hb dX9_findRoot_109 hl (k := 4) rfl (by rw [show Int32.ofInt 1 = nI 1 from by decide]; exact nI_add _ _) (by decide) rfl (fun ls hl => ?_)
                    refine lv_goto (tgt := 83) hx hb dX9_findRoot_112 (by decide) ?_
                    exact ih (k + 1)  _ H locs ls (by omega) (by omega) hS h5 h6 (cellE h15 (cpy_sz rfl)) hF hR (lv_sub hl [1, 2, 3, 4, 0] rfl)
              exact loopV (32 + 1) 0  _ _ _ ls (by omega) (by omega) hS h5 h6 (cellE h15 cpy_0.symm) hF hR (lv_sub hl [1, 2, 3, 4, 0] rfl)
            · have c51 : ¬ (ln x ≤ k) := fun z => c51 ((nI_leI (a := ln x) (b := k) (by omega) (by omega)).mpr z)
              refine lv_aload_n hx hb dX9_findRoot_54 rfl (lv_at hl 0 rfl) ?_
              refine lv_aload_n hx hb dX9_findRoot_55 rfl (lv_at hl 0 rfl) ?_
              refine mm_get S hC hR (C := RX9) (T := TX9) (N := 23) (ref := "ForkWatchModel") (v := .ref (md 5)) 4 h0 inRX9 rfl (by decide) (by decide +kernel) (fun _ h9 => h9) rfl dX9_findRoot_56 ?_
              refine lv_bipush (v := nI 12) hx hb dX9_findRoot_59 (by decide) ?_
              refine lv_iload_n hx hb dX9_findRoot_61 rfl (lv_at hl 3 rfl) ?_
              refine lv_imul hx hb dX9_findRoot_62 ?_
              refine mm_eqi (pk_mul _ _) ?_
              refine lv_iload hx hb dX9_findRoot_63 (lv_at hl 4 rfl) ?_
              refine lv_iadd hx hb dX9_findRoot_65 ?_
              refine mm_eqi (nI_add _ _) ?_
              refine mm_iald S hC hR h5 (j := (12 * (16 * jj + x) + k)) (by omega) (by omega) dX9_findRoot_66 ?_
              refine mm_callv hA hR (va_runV (As := [.int (fs (12 * (16 * jj + x) + k))]) (rest := []) S (c_X9_add l G M1 _ md _ _ _ _ _ _ _ _ _ (fs (12 * (16 * jj + x) + k)) hJ hS (by omega)) (cwV 1 S.2.2.2.2 gX9_findRoot_X9_add rfl rfl rfl (by decide +kernel) ⟨Nat.le_of_ble_eq_true rfl, Nat.le_of_ble_eq_true rfl⟩) (mm_preV hC hA hR _ h0 rfl) rfl rfl hl.1 rfl (lv_room (Nat.le_of_ble_eq_true rfl)) dX9_findRoot_67 ⟨Nat.le_of_ble_eq_true rfl, Nat.le_of_ble_eq_true rfl⟩) (fun M59 H locs hp hR => ?_)
              obtain ⟨hS, ff⟩ := hp
              have h5 := ff.at h5 (mm_nc (yne hJ (by decide) (by decide) (by decide)) (mm_nc (yne hJ (by decide) (by decide) (by decide)) (mm_nc (yne hJ (by decide) (by decide) (by decide)) (mm_nc (yne hJ (by decide) (by decide) (by decide)) (mm_nc (yne hJ (by decide) (by decide) (by decide)) mm_n0)))))
              have h6 := ff.at h6 (mm_nc (yne hJ (by decide) (by decide) (by decide)) (mm_nc (yne hJ (by decide) (by decide) (by decide)) (mm_nc (yne hJ (by decide) (by decide) (by decide)) (mm_nc (yne hJ (by decide) (by decide) (by decide)) (mm_nc (yne hJ (by decide) (by decide) (by decide)) mm_n0)))))
              have h15 := ff.at h15 (mm_nc (yne hJ (by decide) (by decide) (by decide)) (mm_nc (yne hJ (by decide) (by decide) (by decide)) (mm_nc (yne hJ (by decide) (by decide) (by decide)) (mm_nc (yne hJ (by decide) (by decide) (by decide)) (mm_nc (yne hJ (by decide) (by decide) (by decide)) mm_n0)))))
              have h0 : M59 (md 0) = some (ob 10 [.ref (md 1), .ref (md 2), .ref (md 3), .ref (md 4), .ref (md 5), .ref (md 6), .int v6, .ref (md 7), .ref (md 8), .int v9, .ref (md 9), .int v11, .int v12, .int v13, .ref (md 10), .int (nI (3 + k + 1)), .ref (md 11), .ref (md 12), .ref (md 13), .ref (md 14), .ref (md 15), .ref (md 16), .int v22]) := hS.1
              have h10 : M59 (md 10) = some (ia G 256 (upd fm (3 + k) ((fs (12 * (16 * jj + x) + k)) &&& nI 255))) := hS.2.1
              have h11 : M59 (md 11) = some (ia G 32 d1) := hS.2.2.1
              have hF := hF.tr ff (mm_ic 0 rfl (mm_ic 1 rfl (mm_ic 2 rfl (mm_ic 3 rfl (mm_ic 4 rfl mm_i0)))))
              have hm : ∀ j, j < 3 + k + 1 → (upd fm (3 + k) ((fs (12 * (16 * jj + x) + k)) &&& nI 255)) j = (lmsg fc x (ln x)) j := mt_s hm (by rw [lmsg_hi, hfc, show 192 * jj + (x * 12 + k) = 12 * (16 * jj + x) + k by omega]; have h8 := hby (12 * x + k) (by omega); rw [show 192 * jj + (12 * x + k) = 12 * (16 * jj + x) + k by omega] at h8; exact h8)
              refine lv_iinc (v := (nI (k + 1))) (lv' := [(4, .int (nI (k + 1))), (0, .ref (md 0)), (1, .int (nI jj)), (2, .int (nI x)), (3, .int (nI (16 * jj + x)))]) hx hb dX9_findRoot_70 hl (k := 4) rfl (by rw [show Int32.ofInt 1 = nI 1 from by decide]; exact nI_add _ _) (by decide) rfl (fun ls hl => ?_)
              refine lv_goto (tgt := 43) hx hb dX9_findRoot_73 (by decide) ?_
              exact ih (k + 1) _ _ H locs ls (by omega) (by omega) hS h5 h6 h15 hm hF hR (lv_sub hl [1, 2, 3, 4, 0] rfl)
        exact loopF (ln x + 1) 0 _ _ _ _ ls (by omega) (by omega) hS h5 h6 h15 hm hF hR (lv_sub hl [2, 3, 4, 1, 0] rfl)
  exact loopA (16 + 1) 0 _ _ _ _ _ _ _ ls (by omega) (by omega) hS h5 h6 h15 (fun h => absurd h (by decide)) (fun q hq => absurd hq (Nat.not_lt_zero q)) hF hR (lv_sub hl [1, 2, 0] rfl)
