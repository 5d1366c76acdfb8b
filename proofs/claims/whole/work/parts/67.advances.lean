/-- cell 224 but for its fields in J; all other cells -/
def zGq (J : Nat → Prop) (u s : zFi) : Prop := (∀ q, q ≠ 224 → u q = s q) ∧ ∀ j, ¬ J j → u 224 j = s 224 j
theorem zGq.r {J : Nat → Prop} (s : zFi) : zGq J s s := ⟨fun _ _ => rfl, fun _ _ => rfl⟩
theorem zGq.p {J : Nat → Prop} {u s : zFi} (h : zGq J u s) {k : Nat} {v : Int32} (hk : J k) : zGq J (zp u 224 k v) s := ⟨fun q hq => by rw [zp_r _ _ _ hq]; exact h.1 q hq, fun j hj => by rw [zp_k _ _ (show j ≠ k from fun e => hj (by rw [e]; exact hk))]; exact h.2 j hj⟩
theorem zGq.t {J : Nat → Prop} {u v s : zFi} (h1 : zGq J u v) (h2 : zGq J v s) : zGq J u s := ⟨fun q hq => (h1.1 q hq).trans (h2.1 q hq), fun j hj => (h1.2 j hj).trans (h2.2 j hj)⟩
theorem zGq.w {J K : Nat → Prop} {u s : zFi} (h : zGq J u s) (hJ : ∀ j, J j → K j) : zGq K u s := ⟨h.1, fun j hj => h.2 j (fun z => hj (hJ j z))⟩
theorem zGq.x {J : Nat → Prop} {u s : zFi} {t : zTx} (h : zGq J u s) (h1 : ¬ J 7) (ht : zYt s t) : zYt u t := ⟨by rw [h.2 7 h1]; exact ht.1, fun k hk => by rw [h.1 229 (by decide)]; exact ht.2 k hk⟩
def zKa (j : Nat) : Prop := 8 ≤ j ∧ j ≤ 11
theorem zKa_y {j : Nat} (h : 8 ≤ j ∧ j ≤ 11) : zKa j := h
theorem zKa_n {j : Nat} (h : j < 8 ∨ 11 < j) : ¬ zKa j := by unfold zKa; omega
def zK8 (j : Nat) : Prop := j = 8 ∨ j = 11
theorem zK8_n {j : Nat} (h : j ≠ 8 ∧ j ≠ 11) : ¬ zK8 j := by unfold zK8; omega
theorem zK8_a {j : Nat} (h : zK8 j) : zKa j := by unfold zK8 at h; unfold zKa; omega
/-- a token's letters as a number; what the token is -/
def zLwt (t : zTx) (b : Nat) : Nat := zBs t.2 (min (zTkE t b - zTkA t b) 6) (zTkA t b) 0
def yTok (t : zTx) (b : Nat) : Nat := if zTkK t b = 0 then 0 else if zTkK t b = 3 then 2 else if zTkK t b = 2 then 3 else if zTkK t b = 4 ∧ ¬ zWo (zLwt t b) = -9 then 1 else 4
/-- what the reference holds of a token -/
def zYk (u : zFi) (t : zTx) (b : Nat) : Prop := u 224 8 = nI (zTkE t b) ∧ u 224 10 = nI (zTkA t b) ∧ u 224 9 = nI (yTok t b) ∧ (zTkK t b = 3 → u 224 11 = nI (zTkN t b)) ∧ (zTkK t b = 4 → u 224 11 = zWo (zLwt t b))
theorem zBy9_0 {t : zTx} (htw : zTxW t) {i : Nat} : 0 ≤ zBy9 t i ↔ i < t.1 := by
  unfold zBy9
  by_cases h : i < t.1
  · rw [if_pos h]
    refine ⟨fun _ => h, fun _ => ?_⟩
    exact (nI_leI (a := 0) (by decide) (by have := htw.2 i h; omega)).mpr (Nat.zero_le _)
  · rw [if_neg h]
    exact ⟨fun q => absurd q (by decide), fun q => absurd q h⟩
theorem zLt_v {c : Nat} (h : c < 256) : vR (nI c) 97 122 ↔ zLtr c = true := by rw [vR_nI (by omega), zLtr_i]
theorem zDg_v {c : Nat} (h : c < 256) : vR (nI c) 48 57 ↔ zDig c = true := by rw [vR_nI (by omega), zDig_i]
theorem zDg_l {c : Nat} (h : zDig c = true) : ¬ zLtr c = true := by rw [zDig_i] at h; rw [zLtr_i]; omega
theorem zLv_s {f : Nat → Nat} {a i : Nat} (ha : a ≤ i) (h6 : i - a < 6) (hf : 0 < f i) : zA9 (zBs f (min (i - a) 6) a 0) (f i) = zBs f (min (i + 1 - a) 6) a 0 := by
  rw [show min (i + 1 - a) 6 = min (i - a) 6 + 1 by omega, zBs_r, show a + min (i - a) 6 = i by omega]
  unfold zA9
  rw [if_neg (by omega)]
theorem zLv_e {f : Nat → Nat} {a i : Nat} (h6 : ¬ i - a < 6) : zBs f (min (i - a) 6) a 0 = zBs f (min (i + 1 - a) 6) a 0 := by rw [show min (i + 1 - a) 6 = min (i - a) 6 by omega]
theorem zLv_lt {t : zTx} (htw : zTxW t) {a e : Nat} (h : e ≤ t.1) : zBs t.2 (min (e - a) 6) a 0 < 2 ^ 63 := by
  have h1 := zBs_lt (f := t.2) (i := a) (min (e - a) 6) (fun l hl => htw.2 _ (by omega))
  have h2 : 256 ^ min (e - a) 6 ≤ 256 ^ 6 := Nat.pow_le_pow_right (by decide) (by omega)
  omega
/-- digits as the reference reads them -/
def zVs (v c : Nat) : Nat := if 99 < v then v else 10 * v + c - 48
def zVcF (f : Nat → Nat) : Nat → Nat → Nat → Nat
  | 0, _, v => v
  | k + 1, i, v => if zDig (f i) = true then zVcF f k (i + 1) (zVs v (f i)) else v
theorem zVs_le {v c : Nat} (hc : zDig c = true) (h : v ≤ 999) : zVs v c ≤ 999 := by
  rw [zDig_i] at hc
  unfold zVs
  split <;> omega
theorem zVcF_le {f : Nat → Nat} : ∀ (k i v : Nat), v ≤ 999 → zVcF f k i v ≤ 999
  | 0, _, _, h => h
  | k + 1, i, v, h => by
    show (if zDig (f i) = true then _ else v) ≤ 999
    by_cases q : zDig (f i) = true
    · rw [if_pos q]; exact zVcF_le k (i + 1) _ (zVs_le q h)
    · rw [if_neg q]; exact h
theorem zVcF_b {f : Nat → Nat} : ∀ (k i v : Nat), 99 < v → zVcF f k i v = v
  | 0, _, _, _ => rfl
  | k + 1, i, v, h => by
    show (if zDig (f i) = true then zVcF f k (i + 1) (zVs v (f i)) else v) = v
    have e : zVs v (f i) = v := if_pos h
    rw [e, zVcF_b k (i + 1) v h]
    split <;> rfl
theorem zVcF_0 {f : Nat → Nat} {v : Nat} : ∀ (k i : Nat), zRunF zDig f k i = i → zVcF f k i v = v
  | 0, _, _ => rfl
  | k + 1, i, h => by
    have h1 : (if zDig (f i) = true then zRunF zDig f k (i + 1) else i) = i := h
    show (if zDig (f i) = true then _ else v) = v
    split
    · rename_i q
      rw [if_pos q] at h1
      have := (zRunF_b zDig f k (i + 1)).1
      omega
    · rfl
theorem zVcF_s {f : Nat → Nat} {k i : Nat} (h : i < zRunF zDig f k i) : ∃ k', zDig (f i) = true ∧ zRunF zDig f k i = zRunF zDig f k' (i + 1) ∧ (∀ v, zVcF f k i v = zVcF f k' (i + 1) (zVs v (f i))) ∧ ∀ v, zValF f k i v = zValF f k' (i + 1) (v * nI 10 + nI (f i) - nI 48) := by
  cases k with
  | zero => exact absurd h (Nat.lt_irrefl _)
  | succ k =>
    have e1 : zRunF zDig f (k + 1) i = if zDig (f i) = true then zRunF zDig f k (i + 1) else i := rfl
    by_cases q : zDig (f i) = true
    · rw [if_pos q] at e1
      refine ⟨k, q, e1, fun v => ?_, fun v => ?_⟩
      · show (if zDig (f i) = true then _ else v) = _
        rw [if_pos q]
      · show (if zDig (f i) = true then _ else v) = _
        rw [if_pos q]
    · rw [if_neg q] at e1
      omega
/-- the reference's number is the class's -/
theorem zVc_ok {t : zTx} {b a : Nat} (ea : a = zTkA t b) (ha : a < t.1) (hd : zDig (t.2 a) = true) : ((99 < zVcF t.2 (t.1 - a) a 0 ∨ (t.2 a = 48 ∧ 1 < zRun zDig t a - a)) → zNumK t a (zRun zDig t a) = 1) ∧ (¬ (99 < zVcF t.2 (t.1 - a) a 0 ∨ (t.2 a = 48 ∧ 1 < zRun zDig t a - a)) → zNumK t a (zRun zDig t a) = 3 ∧ zVcF t.2 (t.1 - a) a 0 = zTkN t b) := by
  have hlt := zRun_1 ha hd
  obtain ⟨k', d1, e1, v1, w1⟩ := zVcF_s (f := t.2) (k := t.1 - a) (i := a) hlt
  have eR : zRun zDig t a = zRunF zDig t.2 k' (a + 1) := e1
  have b1 := zDig_i.mp d1
  have eN : ∀ n, zValF t.2 (t.1 - a) a (nI 0) = nI n → n ≤ 99 → zTkN t b = n := fun n h1 h2 => by
    unfold zTkN zTkV zVal
    rw [← ea, h1, zK_nI (by omega)]
  have s1 : zVs 0 (t.2 a) = t.2 a - 48 := by unfold zVs; rw [if_neg (by decide)]; omega
  have n1 : zValF t.2 (t.1 - a) a (nI 0) = zValF t.2 k' (a + 1) (nI (t.2 a - 48)) := by rw [w1, zValF_v d1, Nat.zero_mul, Nat.zero_add]
  rw [v1 0, s1]
  by_cases q1 : zRun zDig t a - a = 1
  · have z0 : zRunF zDig t.2 k' (a + 1) = a + 1 := by omega
    rw [zVcF_0 k' (a + 1) z0]
    refine ⟨fun h => by omega, fun _ => ⟨if_pos (Or.inl q1), ?_⟩⟩
    rw [eN (t.2 a - 48) (by rw [n1, zValF_0 k' (a + 1) z0]) (by omega)]
  · have hlt2 : a + 1 < zRunF zDig t.2 k' (a + 1) := by omega
    obtain ⟨k2, d2, e2, v2, w2⟩ := zVcF_s hlt2
    have b2 := zDig_i.mp d2
    have s2 : zVs (t.2 a - 48) (t.2 (a + 1)) = 10 * (t.2 a - 48) + (t.2 (a + 1) - 48) := by unfold zVs; rw [if_neg (by omega)]; omega
    rw [v2, s2]
    by_cases q2 : zRun zDig t a - a = 2
    · have z0 : zRunF zDig t.2 k2 (a + 1 + 1) = a + 1 + 1 := by omega
      rw [zVcF_0 k2 _ z0]
      constructor
      · intro h
        unfold zNumK
        rw [if_neg (by omega)]
      · intro h
        refine ⟨if_pos (Or.inr ⟨q2, by omega⟩), ?_⟩
        rw [eN (10 * (t.2 a - 48) + (t.2 (a + 1) - 48)) (by rw [n1, w2, zValF_v d2, zValF_0 k2 _ z0, Nat.mul_comm]) (by omega)]
    · have hlt3 : a + 1 + 1 < zRunF zDig t.2 k2 (a + 1 + 1) := by omega
      obtain ⟨k3, d3, e3, v3, w3⟩ := zVcF_s hlt3
      have b3 := zDig_i.mp d3
      have eK : zNumK t a (zRun zDig t a) = 1 := by unfold zNumK; rw [if_neg (by omega)]
      refine ⟨fun _ => eK, fun h => ?_⟩
      exfalso
      apply h
      by_cases c48 : t.2 a = 48
      · exact Or.inr ⟨c48, by omega⟩
      · left
        rw [v3]
        have s3 : zVs (10 * (t.2 a - 48) + (t.2 (a + 1) - 48)) (t.2 (a + 1 + 1)) = 10 * (10 * (t.2 a - 48) + (t.2 (a + 1) - 48)) + t.2 (a + 1 + 1) - 48 := by unfold zVs; rw [if_neg (by omega)]
        rw [s3, zVcF_b k3 _ _ (by omega)]
        omega
section ZYK
variable {u : zFi} {t : zTx} {b a : Nat}
theorem zYk.e (ea : a = zTkA t b) (h : ¬ a < t.1) (h8 : u 224 8 = nI a) (h10 : u 224 10 = nI a) (h9 : u 224 9 = nI 0) : zYk u t b := by
  have eK : zTkK t b = 0 := by unfold zTkK; rw [← ea, if_pos (by omega)]
  have eE : zTkE t b = a := by unfold zTkE; rw [← ea, if_pos (by omega)]
  refine ⟨by rw [eE]; exact h8, by rw [← ea]; exact h10, ?_, fun z => absurd (eK.symm.trans z) (by decide), fun z => absurd (eK.symm.trans z) (by decide)⟩
  rw [h9]; unfold yTok; rw [if_pos eK]
theorem zYk.l (ea : a = zTkA t b) (h : a < t.1) (hl : zLtr (t.2 a) = true) (h8 : u 224 8 = nI (zRun zLtr t a)) (h10 : u 224 10 = nI a) (h11 : u 224 11 = zWo (zBs t.2 (min (zRun zLtr t a - a) 6) a 0)) (h9 : u 224 9 = if zWo (zBs t.2 (min (zRun zLtr t a - a) 6) a 0) = -9 then nI 4 else nI 1) : zYk u t b := by
  have hd : ¬ zDig (t.2 a) = true := fun z => zDg_l z hl
  have eK : zTkK t b = 4 := by unfold zTkK; rw [← ea, if_neg (by omega), if_neg hd, if_pos hl]
  have eE : zTkE t b = zRun zLtr t a := by unfold zTkE; rw [← ea, if_neg (by omega), if_neg hd, if_pos hl]
  have eL : zLwt t b = zBs t.2 (min (zRun zLtr t a - a) 6) a 0 := by unfold zLwt; rw [eE, ← ea]
  refine ⟨by rw [eE]; exact h8, by rw [← ea]; exact h10, ?_, fun z => absurd (eK.symm.trans z) (by decide), fun _ => by rw [eL]; exact h11⟩
  rw [h9]
  by_cases q : zWo (zBs t.2 (min (zRun zLtr t a - a) 6) a 0) = -9
  · rw [if_pos q]; unfold yTok; rw [eK, eL]; simp [q]
  · rw [if_neg q]; unfold yTok; rw [eK, eL]; simp [q]
theorem zYk.d (ea : a = zTkA t b) (h : a < t.1) (hd : zDig (t.2 a) = true) (h8 : u 224 8 = nI (zRun zDig t a)) (h10 : u 224 10 = nI a) (h11 : u 224 11 = nI (zVcF t.2 (t.1 - a) a 0)) (h9 : (u 224 9 = nI 4 ∧ (99 < zVcF t.2 (t.1 - a) a 0 ∨ (t.2 a = 48 ∧ 1 < zRun zDig t a - a))) ∨ (u 224 9 = nI 2 ∧ ¬ (99 < zVcF t.2 (t.1 - a) a 0 ∨ (t.2 a = 48 ∧ 1 < zRun zDig t a - a)))) : zYk u t b := by
  have eK : zTkK t b = zNumK t a (zRun zDig t a) := by unfold zTkK; rw [← ea, if_neg (by omega), if_pos hd]
  have eE : zTkE t b = zRun zDig t a := by unfold zTkE; rw [← ea, if_neg (by omega), if_pos hd]
  have hok := zVc_ok ea h hd
  rcases h9 with ⟨k1, k2⟩ | ⟨k1, k2⟩
  · have eK1 := eK.trans (hok.1 k2)
    refine ⟨by rw [eE]; exact h8, by rw [← ea]; exact h10, ?_, fun z => absurd (eK1.symm.trans z) (by decide), fun z => absurd (eK1.symm.trans z) (by decide)⟩
    rw [k1]; unfold yTok
    rw [eK1, if_neg (by decide), if_neg (by decide), if_neg (by decide), if_neg (fun z => absurd z.1 (by decide))]
  · have hk := hok.2 k2
    have eK1 := eK.trans hk.1
    refine ⟨by rw [eE]; exact h8, by rw [← ea]; exact h10, ?_, fun _ => by rw [h11, hk.2], fun z => absurd (eK1.symm.trans z) (by decide)⟩
    rw [k1]; unfold yTok
    rw [eK1, if_neg (by decide), if_pos rfl]
theorem zYk.o (ea : a = zTkA t b) (h : a < t.1) (hl : ¬ zLtr (t.2 a) = true) (hd : ¬ zDig (t.2 a) = true) (h8 : u 224 8 = nI (a + 1)) (h10 : u 224 10 = nI a) (h9 : u 224 9 = if t.2 a = 59 then nI 3 else nI 4) : zYk u t b := by
  have eE : zTkE t b = a + 1 := by unfold zTkE; rw [← ea, if_neg (by omega), if_neg hd, if_neg hl]
  have eK : zTkK t b = if t.2 a = 59 then 2 else 1 := by unfold zTkK; rw [← ea, if_neg (by omega), if_neg hd, if_neg hl]
  have hK : zTkK t b = 2 ∨ zTkK t b = 1 := by rw [eK]; split <;> omega
  refine ⟨by rw [eE]; exact h8, by rw [← ea]; exact h10, ?_, fun z => by omega, fun z => by omega⟩
  rw [h9]; unfold yTok
  by_cases q : t.2 a = 59
  · rw [if_pos q] at eK ⊢
    rw [eK, if_neg (by decide), if_neg (by decide), if_pos rfl]
  · rw [if_neg q] at eK ⊢
    rw [eK, if_neg (by decide), if_neg (by decide), if_neg (by decide), if_neg (fun z => absurd z.1 (by decide))]
end ZYK
set_option maxHeartbeats 4000000 in
set_option maxRecDepth 100000 in
theorem l_X8_spaces (G : zG) (d : Nat) (Q : zQ) {v1 v2 v3 : Value} {D E : Nat} {t : zTx} {ml : zFl} {mr : zFr} (hr : zRf mr D E) (htw : zTxW t) : ∀ (k i : Nat) (s : zFi), i + k = t.1 → zYt s t → s 224 8 = nI i → (∀ u, u 224 8 = nI (zRunF zSpc t.2 k i) → zGq zK8 u s → zE G (zRm (d + 3) 238 238) (zQm G 238 238 Q) yX8_advances.cls yX8_advances.name cX8_advances 4 none 238 26 [.ref 224, v1, v2, v3] [] 238 u ml mr) → zE G (zRm (d + 3) 238 238) (zQm G 238 238 Q) yX8_advances.cls yX8_advances.name cX8_advances 4 none 238 0 [.ref 224, v1, v2, v3] [] 238 s ml mr := by
  intro k
  induction k with
  | zero =>
    intro i s h ht hs hQ
    have ht3 := htw.1
    refine e_aload_n 1 dX8_advances_0 rfl rfl ?_
    refine e_aload_n 2 dX8_advances_1 rfl rfl ?_
    refine e_geti 5 dX8_advances_2 lf_X8_79 rfl rfl rfl (by decide) hs ?_
    refine c_Vqi 8 (ci := 8) dX8_advances_5 (k_X8_byteAt G hr htw ht (i := i) (by omega)) lm_X8_82 zi_yX8_byteAt zs_yX8_byteAt rfl rfl (by decide) rfl rfl rfl (Nat.le_of_ble_eq_true rfl) (Nat.le_of_ble_eq_true rfl) (Nat.le_of_ble_eq_true rfl) (by exact Nat.le_refl _) (by exact Nat.le_refl _) ?_
    refine e_bipush 10 hbi_32 dX8_advances_8 rfl ?_
    refine e_icmp_ne 26 13 dX8_advances_10 (by decide) rfl (fun h10 => ?_) (fun h10 => ?_)
    · exact hQ s hs (zGq.r s)
    · exact absurd ((zBy9_e htw (by decide)).mp h10).1 (by omega)
  | succ k ih =>
    intro i s h ht hs hQ
    have ht3 := htw.1
    refine e_aload_n 1 dX8_advances_0 rfl rfl ?_
    refine e_aload_n 2 dX8_advances_1 rfl rfl ?_
    refine e_geti 5 dX8_advances_2 lf_X8_79 rfl rfl rfl (by decide) hs ?_
    refine c_Vqi 8 (ci := 8) dX8_advances_5 (k_X8_byteAt G hr htw ht (i := i) (by omega)) lm_X8_82 zi_yX8_byteAt zs_yX8_byteAt rfl rfl (by decide) rfl rfl rfl (Nat.le_of_ble_eq_true rfl) (Nat.le_of_ble_eq_true rfl) (Nat.le_of_ble_eq_true rfl) (by exact Nat.le_refl _) (by exact Nat.le_refl _) ?_
    refine e_bipush 10 hbi_32 dX8_advances_8 rfl ?_
    refine e_icmp_ne 26 13 dX8_advances_10 (by decide) rfl (fun h10 => ?_) (fun h10 => ?_)
    · rw [show zRunF zSpc t.2 (k + 1) i = if zSpc (t.2 i) = true then zRunF zSpc t.2 k (i + 1) else i from rfl, if_neg (fun z => h10 ((zBy9_e htw (by decide)).mpr ⟨by omega, zSpc_i.mp z⟩))] at hQ
      exact hQ s hs (zGq.r s)
    · refine e_aload_n 14 dX8_advances_13 rfl rfl ?_
      refine e_dup 15 dX8_advances_14 rfl rfl ?_
      refine e_geti 18 dX8_advances_15 lf_X8_79 rfl rfl rfl (by decide) hs ?_
      refine e_iconst 19 hic_1 dX8_advances_18 rfl ?_
      first | refine e_iaddN 20 dX8_advances_19 rfl ?_ | refine e_iadd 20 dX8_advances_19 rfl ?_
      refine e_puti 23 dX8_advances_20 lf_X8_79 rfl rfl rfl rfl rfl (by decide) ?_
      refine e_goto 0 dX8_advances_23 (by decide) ?_
      have h10 := (zBy9_e htw (by decide)).mp h10
      rw [show zRunF zSpc t.2 (k + 1) i = if zSpc (t.2 i) = true then zRunF zSpc t.2 k (i + 1) else i from rfl, if_pos (zSpc_i.mpr h10.2)] at hQ
      exact ih (i + 1) _ (by omega) (((zGq.r s).p (J := zK8) (Or.inl rfl)).x (zK8_n (by decide)) ht) (zp_s _ _ _ _) (fun u g1 g2 => hQ u g1 (g2.t ((zGq.r s).p (J := zK8) (Or.inl rfl))))
set_option maxHeartbeats 4000000 in
set_option maxRecDepth 100000 in
theorem l_X8_letters (G : zG) (d : Nat) (Q : zQ) {c9 : Int32} {a : Nat} {D E : Nat} {t : zTx} {ml : zFl} {mr : zFr} (hr : zRf mr D E) (htw : zTxW t) : ∀ (k i : Nat) (s : zFi) (v : Nat), i + k = t.1 → a ≤ i → zYt s t → s 224 8 = nI i → s 224 10 = nI a → v = zBs t.2 (min (i - a) 6) a 0 → (∀ u, u 224 8 = nI (zRunF zLtr t.2 k i) → zGq zK8 u s → zE G (zRm (d + 3) 238 238) (zQm G 238 238 Q) yX8_advances.cls yX8_advances.name cX8_advances 4 none 238 130 [.ref 224, .int c9, .long (lN (zBs t.2 (min (zRunF zLtr t.2 k i - a) 6) a 0)), zx] [] 238 u ml mr) → zE G (zRm (d + 3) 238 238) (zQm G 238 238 Q) yX8_advances.cls yX8_advances.name cX8_advances 4 none 238 68 [.ref 224, .int c9, .long (lN v), zx] [] 238 s ml mr := by
  intro k
  induction k with
  | zero =>
    intro i s v h hai ht hs h10 hv hQ
    have ht3 := htw.1
    refine e_aload_n 69 dX8_advances_68 rfl rfl ?_
    refine e_aload_n 70 dX8_advances_69 rfl rfl ?_
    refine e_geti 73 dX8_advances_70 lf_X8_79 rfl rfl rfl (by decide) hs ?_
    refine c_Vqi 76 (ci := 8) dX8_advances_73 (k_X8_byteAt G hr htw ht (i := i) (by omega)) lm_X8_82 zi_yX8_byteAt zs_yX8_byteAt rfl rfl (by decide) rfl rfl rfl (Nat.le_of_ble_eq_true rfl) (Nat.le_of_ble_eq_true rfl) (Nat.le_of_ble_eq_true rfl) (by exact Nat.le_refl _) (by exact Nat.le_refl _) ?_
    refine e_bipush 78 hbi_97 dX8_advances_76 rfl ?_
    refine e_bipush 80 hbi_122 dX8_advances_78 rfl ?_
    refine c_Sqi 83 dX8_advances_80 (k_X8_inN G (by decide) (by decide)) lm_X8_60 zt_yX8_in rfl rfl rfl (Nat.le_of_ble_eq_true rfl) (Nat.le_of_ble_eq_true rfl) (Nat.le_of_ble_eq_true rfl) (by exact Nat.le_refl _) (by exact Nat.le_refl _) ?_
    refine e_if_eq 130 86 dX8_advances_83 (by decide) rfl (fun h83 => ?_) (fun h83 => ?_)
    · rw [hv]
      exact hQ s hs (zGq.r s)
    · exact absurd ((zBy9_l htw).mp (zB_1 h83)).1 (by omega)
  | succ k ih =>
    intro i s v h hai ht hs h10 hv hQ
    have ht3 := htw.1
    refine e_aload_n 69 dX8_advances_68 rfl rfl ?_
    refine e_aload_n 70 dX8_advances_69 rfl rfl ?_
    refine e_geti 73 dX8_advances_70 lf_X8_79 rfl rfl rfl (by decide) hs ?_
    refine c_Vqi 76 (ci := 8) dX8_advances_73 (k_X8_byteAt G hr htw ht (i := i) (by omega)) lm_X8_82 zi_yX8_byteAt zs_yX8_byteAt rfl rfl (by decide) rfl rfl rfl (Nat.le_of_ble_eq_true rfl) (Nat.le_of_ble_eq_true rfl) (Nat.le_of_ble_eq_true rfl) (by exact Nat.le_refl _) (by exact Nat.le_refl _) ?_
    refine e_bipush 78 hbi_97 dX8_advances_76 rfl ?_
    refine e_bipush 80 hbi_122 dX8_advances_78 rfl ?_
    refine c_Sqi 83 dX8_advances_80 (k_X8_inN G (by decide) (by decide)) lm_X8_60 zt_yX8_in rfl rfl rfl (Nat.le_of_ble_eq_true rfl) (Nat.le_of_ble_eq_true rfl) (Nat.le_of_ble_eq_true rfl) (by exact Nat.le_refl _) (by exact Nat.le_refl _) ?_
    refine e_if_eq 130 86 dX8_advances_83 (by decide) rfl (fun h83 => ?_) (fun h83 => ?_)
    · have h83 := zB_0 h83
      rw [show zRunF zLtr t.2 (k + 1) i = if zLtr (t.2 i) = true then zRunF zLtr t.2 k (i + 1) else i from rfl, if_neg (fun z => h83 ((zBy9_l htw).mpr ⟨by omega, z⟩))] at hQ
      rw [hv]
      exact hQ s hs (zGq.r s)
    · have h83 := (zBy9_l htw).mp (zB_1 h83)
      have hc9 := htw.2 i h83.1
      have hl9 := zLtr_i.mp h83.2
      refine e_aload_n 87 dX8_advances_86 rfl rfl ?_
      refine e_geti 90 dX8_advances_87 lf_X8_79 rfl rfl rfl (by decide) hs ?_
      refine e_aload_n 91 dX8_advances_90 rfl rfl ?_
      refine e_geti 94 dX8_advances_91 lf_X8_86 rfl rfl rfl (by decide) h10 ?_
      first | refine e_isubN 95 dX8_advances_94 rfl (by omega) ?_ | refine e_isub 95 dX8_advances_94 rfl ?_
      refine e_bipush 97 hbi_6 dX8_advances_95 rfl ?_
      refine e_icmp_geN 115 100 dX8_advances_97 (by decide) rfl (by omega) (by omega) (fun h97 => ?_) (fun h97 => ?_)
      · refine e_lload_n 116 dX8_advances_115 rfl rfl ?_
        refine e_lstore_n 117 dX8_advances_116 rfl (by decide) (zst2_2 rfl) ?_
        refine e_aload_n 118 dX8_advances_117 rfl rfl ?_
        refine e_dup 119 dX8_advances_118 rfl rfl ?_
        refine e_geti 122 dX8_advances_119 lf_X8_79 rfl rfl rfl (by decide) hs ?_
        refine e_iconst 123 hic_1 dX8_advances_122 rfl ?_
        first | refine e_iaddN 124 dX8_advances_123 rfl ?_ | refine e_iadd 124 dX8_advances_123 rfl ?_
        refine e_puti 127 dX8_advances_124 lf_X8_79 rfl rfl rfl rfl rfl (by decide) ?_
        refine e_goto 68 dX8_advances_127 (by decide) ?_
        rw [show zRunF zLtr t.2 (k + 1) i = if zLtr (t.2 i) = true then zRunF zLtr t.2 k (i + 1) else i from rfl, if_pos (h83.2)] at hQ
        first
          | exact ih (i + 1) _ _ (by omega) (by omega) (((zGq.r s).p (J := zK8) (Or.inl rfl)).x (zK8_n (by decide)) ht) (zp_s _ _ _ _) ((zp_k _ _ (by decide)).trans h10) (by rw [hv]; exact zLv_s hai (by omega) (by omega)) (fun u g1 g2 => hQ u g1 (g2.t ((zGq.r s).p (J := zK8) (Or.inl rfl))))
          | exact ih (i + 1) _ _ (by omega) (by omega) (((zGq.r s).p (J := zK8) (Or.inl rfl)).x (zK8_n (by decide)) ht) (zp_s _ _ _ _) ((zp_k _ _ (by decide)).trans h10) (by rw [hv]; exact zLv_e (by omega)) (fun u g1 g2 => hQ u g1 (g2.t ((zGq.r s).p (J := zK8) (Or.inl rfl))))
      · refine e_lload_n 101 dX8_advances_100 rfl rfl ?_
        refine e_aload_n 102 dX8_advances_101 rfl rfl ?_
        refine e_aload_n 103 dX8_advances_102 rfl rfl ?_
        refine e_geti 106 dX8_advances_103 lf_X8_79 rfl rfl rfl (by decide) hs ?_
        refine c_Vqi 109 (ci := 8) dX8_advances_106 (k_X8_byteAt G hr htw ht (i := i) (by omega)) lm_X8_82 zi_yX8_byteAt zs_yX8_byteAt rfl rfl (by decide) rfl rfl rfl (Nat.le_of_ble_eq_true rfl) (Nat.le_of_ble_eq_true rfl) (Nat.le_of_ble_eq_true rfl) (by exact Nat.le_refl _) (by exact Nat.le_refl _) ?_
        rw [zBy9_y h83.1]
        refine c_Sql 112 dX8_advances_109 (k_X8_add G (by omega)) lm_X8_71 zt_yX8_add rfl rfl rfl (Nat.le_of_ble_eq_true rfl) (Nat.le_of_ble_eq_true rfl) (Nat.le_of_ble_eq_true rfl) (by exact Nat.le_refl _) (by exact Nat.le_refl _) ?_
        refine e_goto 116 dX8_advances_112 (by decide) ?_
        refine e_lstore_n 117 dX8_advances_116 rfl (by decide) (zst2_2 rfl) ?_
        refine e_aload_n 118 dX8_advances_117 rfl rfl ?_
        refine e_dup 119 dX8_advances_118 rfl rfl ?_
        refine e_geti 122 dX8_advances_119 lf_X8_79 rfl rfl rfl (by decide) hs ?_
        refine e_iconst 123 hic_1 dX8_advances_122 rfl ?_
        first | refine e_iaddN 124 dX8_advances_123 rfl ?_ | refine e_iadd 124 dX8_advances_123 rfl ?_
        refine e_puti 127 dX8_advances_124 lf_X8_79 rfl rfl rfl rfl rfl (by decide) ?_
        refine e_goto 68 dX8_advances_127 (by decide) ?_
        rw [show zRunF zLtr t.2 (k + 1) i = if zLtr (t.2 i) = true then zRunF zLtr t.2 k (i + 1) else i from rfl, if_pos (h83.2)] at hQ
        first
          | exact ih (i + 1) _ _ (by omega) (by omega) (((zGq.r s).p (J := zK8) (Or.inl rfl)).x (zK8_n (by decide)) ht) (zp_s _ _ _ _) ((zp_k _ _ (by decide)).trans h10) (by rw [hv]; exact zLv_s hai (by omega) (by omega)) (fun u g1 g2 => hQ u g1 (g2.t ((zGq.r s).p (J := zK8) (Or.inl rfl))))
          | exact ih (i + 1) _ _ (by omega) (by omega) (((zGq.r s).p (J := zK8) (Or.inl rfl)).x (zK8_n (by decide)) ht) (zp_s _ _ _ _) ((zp_k _ _ (by decide)).trans h10) (by rw [hv]; exact zLv_e (by omega)) (fun u g1 g2 => hQ u g1 (g2.t ((zGq.r s).p (J := zK8) (Or.inl rfl))))
set_option maxHeartbeats 4000000 in
set_option maxRecDepth 100000 in
theorem l_X8_digits (G : zG) (d : Nat) (Q : zQ) {c9 : Int32} {v2 v3 : Value} {D E : Nat} {t : zTx} {ml : zFl} {mr : zFr} (hr : zRf mr D E) (htw : zTxW t) : ∀ (k i : Nat) (s : zFi) (v : Nat), i + k = t.1 → v ≤ 999 → zYt s t → s 224 8 = nI i → s 224 11 = nI v → (∀ u, u 224 8 = nI (zRunF zDig t.2 k i) → u 224 11 = nI (zVcF t.2 k i v) → zGq zK8 u s → zE G (zRm (d + 3) 238 238) (zQm G 238 238 Q) yX8_advances.cls yX8_advances.name cX8_advances 4 none 238 245 [.ref 224, .int c9, v2, v3] [] 238 u ml mr) → zE G (zRm (d + 3) 238 238) (zQm G 238 238 Q) yX8_advances.cls yX8_advances.name cX8_advances 4 none 238 175 [.ref 224, .int c9, v2, v3] [] 238 s ml mr := by
  intro k
  induction k with
  | zero =>
    intro i s v h hv9 ht hs h11 hQ
    have ht3 := htw.1
    refine e_aload_n 176 dX8_advances_175 rfl rfl ?_
    refine e_aload_n 177 dX8_advances_176 rfl rfl ?_
    refine e_geti 180 dX8_advances_177 lf_X8_79 rfl rfl rfl (by decide) hs ?_
    refine c_Vqi 183 (ci := 8) dX8_advances_180 (k_X8_byteAt G hr htw ht (i := i) (by omega)) lm_X8_82 zi_yX8_byteAt zs_yX8_byteAt rfl rfl (by decide) rfl rfl rfl (Nat.le_of_ble_eq_true rfl) (Nat.le_of_ble_eq_true rfl) (Nat.le_of_ble_eq_true rfl) (by exact Nat.le_refl _) (by exact Nat.le_refl _) ?_
    refine e_bipush 185 hbi_48 dX8_advances_183 rfl ?_
    refine e_bipush 187 hbi_57 dX8_advances_185 rfl ?_
    refine c_Sqi 190 dX8_advances_187 (k_X8_inN G (by decide) (by decide)) lm_X8_60 zt_yX8_in rfl rfl rfl (Nat.le_of_ble_eq_true rfl) (Nat.le_of_ble_eq_true rfl) (Nat.le_of_ble_eq_true rfl) (by exact Nat.le_refl _) (by exact Nat.le_refl _) ?_
    refine e_if_eq 245 193 dX8_advances_190 (by decide) rfl (fun h190 => ?_) (fun h190 => ?_)
    · exact hQ s hs h11 (zGq.r s)
    · exact absurd ((zBy9_d htw).mp (zB_1 h190)).1 (by omega)
  | succ k ih =>
    intro i s v h hv9 ht hs h11 hQ
    have ht3 := htw.1
    refine e_aload_n 176 dX8_advances_175 rfl rfl ?_
    refine e_aload_n 177 dX8_advances_176 rfl rfl ?_
    refine e_geti 180 dX8_advances_177 lf_X8_79 rfl rfl rfl (by decide) hs ?_
    refine c_Vqi 183 (ci := 8) dX8_advances_180 (k_X8_byteAt G hr htw ht (i := i) (by omega)) lm_X8_82 zi_yX8_byteAt zs_yX8_byteAt rfl rfl (by decide) rfl rfl rfl (Nat.le_of_ble_eq_true rfl) (Nat.le_of_ble_eq_true rfl) (Nat.le_of_ble_eq_true rfl) (by exact Nat.le_refl _) (by exact Nat.le_refl _) ?_
    refine e_bipush 185 hbi_48 dX8_advances_183 rfl ?_
    refine e_bipush 187 hbi_57 dX8_advances_185 rfl ?_
    refine c_Sqi 190 dX8_advances_187 (k_X8_inN G (by decide) (by decide)) lm_X8_60 zt_yX8_in rfl rfl rfl (Nat.le_of_ble_eq_true rfl) (Nat.le_of_ble_eq_true rfl) (Nat.le_of_ble_eq_true rfl) (by exact Nat.le_refl _) (by exact Nat.le_refl _) ?_
    refine e_if_eq 245 193 dX8_advances_190 (by decide) rfl (fun h190 => ?_) (fun h190 => ?_)
    · have h190 := zB_0 h190
      rw [show zRunF zDig t.2 (k + 1) i = if zDig (t.2 i) = true then zRunF zDig t.2 k (i + 1) else i from rfl, show zVcF t.2 (k + 1) i v = if zDig (t.2 i) = true then zVcF t.2 k (i + 1) (zVs v (t.2 i)) else v from rfl, if_neg (fun z => h190 ((zBy9_d htw).mpr ⟨by omega, z⟩)), if_neg (fun z => h190 ((zBy9_d htw).mpr ⟨by omega, z⟩))] at hQ
      exact hQ s hs h11 (zGq.r s)
    · have h190 := (zBy9_d htw).mp (zB_1 h190)
      have hc9 := htw.2 i h190.1
      have hd9 := zDig_i.mp h190.2
      refine e_aload_n 194 dX8_advances_193 rfl rfl ?_
      refine e_aload_n 195 dX8_advances_194 rfl rfl ?_
      refine e_geti 198 dX8_advances_195 lf_X8_96 rfl rfl rfl (by decide) h11 ?_
      refine e_bipush 200 hbi_99 dX8_advances_198 rfl ?_
      refine e_icmp_leN 210 203 dX8_advances_200 (by decide) rfl (by omega) (by omega) (fun h200 => ?_) (fun h200 => ?_)
      · refine e_bipush 212 hbi_10 dX8_advances_210 rfl ?_
        refine e_aload_n 213 dX8_advances_212 rfl rfl ?_
        refine e_geti 216 dX8_advances_213 lf_X8_96 rfl rfl rfl (by decide) h11 ?_
        first | refine e_imulN 217 dX8_advances_216 rfl ?_ | refine e_imul 217 dX8_advances_216 rfl ?_
        refine e_aload_n 218 dX8_advances_217 rfl rfl ?_
        refine e_aload_n 219 dX8_advances_218 rfl rfl ?_
        refine e_geti 222 dX8_advances_219 lf_X8_79 rfl rfl rfl (by decide) hs ?_
        refine c_Vqi 225 (ci := 8) dX8_advances_222 (k_X8_byteAt G hr htw ht (i := i) (by omega)) lm_X8_82 zi_yX8_byteAt zs_yX8_byteAt rfl rfl (by decide) rfl rfl rfl (Nat.le_of_ble_eq_true rfl) (Nat.le_of_ble_eq_true rfl) (Nat.le_of_ble_eq_true rfl) (by exact Nat.le_refl _) (by exact Nat.le_refl _) ?_
        rw [zBy9_y h190.1]
        first | refine e_iaddN 226 dX8_advances_225 rfl ?_ | refine e_iadd 226 dX8_advances_225 rfl ?_
        refine e_bipush 228 hbi_48 dX8_advances_226 rfl ?_
        first | refine e_isubN 229 dX8_advances_228 rfl (by omega) ?_ | refine e_isub 229 dX8_advances_228 rfl ?_
        refine e_puti 232 dX8_advances_229 lf_X8_96 rfl rfl rfl rfl rfl (by decide) ?_
        refine e_aload_n 233 dX8_advances_232 rfl rfl ?_
        refine e_dup 234 dX8_advances_233 rfl rfl ?_
        refine e_geti (v := nI i) 237 dX8_advances_234 lf_X8_79 rfl rfl rfl (by decide) ((zp_k _ _ (by decide)).trans hs) ?_
        refine e_iconst 238 hic_1 dX8_advances_237 rfl ?_
        first | refine e_iaddN 239 dX8_advances_238 rfl ?_ | refine e_iadd 239 dX8_advances_238 rfl ?_
        refine e_puti 242 dX8_advances_239 lf_X8_79 rfl rfl rfl rfl rfl (by decide) ?_
        refine e_goto 175 dX8_advances_242 (by decide) ?_
        rw [show zRunF zDig t.2 (k + 1) i = if zDig (t.2 i) = true then zRunF zDig t.2 k (i + 1) else i from rfl, show zVcF t.2 (k + 1) i v = if zDig (t.2 i) = true then zVcF t.2 k (i + 1) (zVs v (t.2 i)) else v from rfl, if_pos (h190.2), if_pos (h190.2)] at hQ
        first
          | (rw [show zVs v (t.2 i) = v from if_pos (by omega)] at hQ
             exact ih (i + 1) _ _ (by omega) hv9 ((((zGq.r s).p (J := zK8) (Or.inr rfl)).p (Or.inl rfl)).x (zK8_n (by decide)) ht) (zp_s _ _ _ _) ((zp_k _ _ (by decide)).trans (zp_s _ _ _ _)) (fun u g1 g2 g3 => hQ u g1 g2 (g3.t (((zGq.r s).p (J := zK8) (Or.inr rfl)).p (Or.inl rfl)))))
          | (rw [show zVs v (t.2 i) = 10 * v + t.2 i - 48 from if_neg (by omega)] at hQ
             exact ih (i + 1) _ _ (by omega) (by omega) ((((zGq.r s).p (J := zK8) (Or.inr rfl)).p (Or.inl rfl)).x (zK8_n (by decide)) ht) (zp_s _ _ _ _) ((zp_k _ _ (by decide)).trans (zp_s _ _ _ _)) (fun u g1 g2 g3 => hQ u g1 g2 (g3.t (((zGq.r s).p (J := zK8) (Or.inr rfl)).p (Or.inl rfl)))))
      · refine e_aload_n 204 dX8_advances_203 rfl rfl ?_
        refine e_geti 207 dX8_advances_204 lf_X8_96 rfl rfl rfl (by decide) h11 ?_
        refine e_goto 229 dX8_advances_207 (by decide) ?_
        refine e_puti 232 dX8_advances_229 lf_X8_96 rfl rfl rfl rfl rfl (by decide) ?_
        refine e_aload_n 233 dX8_advances_232 rfl rfl ?_
        refine e_dup 234 dX8_advances_233 rfl rfl ?_
        refine e_geti (v := nI i) 237 dX8_advances_234 lf_X8_79 rfl rfl rfl (by decide) ((zp_k _ _ (by decide)).trans hs) ?_
        refine e_iconst 238 hic_1 dX8_advances_237 rfl ?_
        first | refine e_iaddN 239 dX8_advances_238 rfl ?_ | refine e_iadd 239 dX8_advances_238 rfl ?_
        refine e_puti 242 dX8_advances_239 lf_X8_79 rfl rfl rfl rfl rfl (by decide) ?_
        refine e_goto 175 dX8_advances_242 (by decide) ?_
        rw [show zRunF zDig t.2 (k + 1) i = if zDig (t.2 i) = true then zRunF zDig t.2 k (i + 1) else i from rfl, show zVcF t.2 (k + 1) i v = if zDig (t.2 i) = true then zVcF t.2 k (i + 1) (zVs v (t.2 i)) else v from rfl, if_pos (h190.2), if_pos (h190.2)] at hQ
        first
          | (rw [show zVs v (t.2 i) = v from if_pos (by omega)] at hQ
             exact ih (i + 1) _ _ (by omega) hv9 ((((zGq.r s).p (J := zK8) (Or.inr rfl)).p (Or.inl rfl)).x (zK8_n (by decide)) ht) (zp_s _ _ _ _) ((zp_k _ _ (by decide)).trans (zp_s _ _ _ _)) (fun u g1 g2 g3 => hQ u g1 g2 (g3.t (((zGq.r s).p (J := zK8) (Or.inr rfl)).p (Or.inl rfl)))))
          | (rw [show zVs v (t.2 i) = 10 * v + t.2 i - 48 from if_neg (by omega)] at hQ
             exact ih (i + 1) _ _ (by omega) (by omega) ((((zGq.r s).p (J := zK8) (Or.inr rfl)).p (Or.inl rfl)).x (zK8_n (by decide)) ht) (zp_s _ _ _ _) ((zp_k _ _ (by decide)).trans (zp_s _ _ _ _)) (fun u g1 g2 g3 => hQ u g1 g2 (g3.t (((zGq.r s).p (J := zK8) (Or.inr rfl)).p (Or.inl rfl)))))
theorem zYk_oF {w mi : zFi} {t : zTx} {a b k9 : Nat} (ea : a = zTkA t b) (h44 : a < t.1) (h63 : ¬ zLtr (t.2 a) = true) (h167 : ¬ zDig (t.2 a) = true) (f1 : zGq zKa w mi) (e10 : w 224 10 = nI a) (hk : nI k9 = if t.2 a = 59 then nI 3 else nI 4) : zYk (zp (zp w 224 8 (nI (a + 1))) 224 9 (nI k9)) t b ∧ zGq zKa (zp (zp w 224 8 (nI (a + 1))) 224 9 (nI k9)) mi :=
  ⟨zYk.o ea h44 h63 h167 ((zp_k _ _ (by decide)).trans (zp_s _ _ _ _)) ((zp_k _ _ (by decide)).trans ((zp_k _ _ (by decide)).trans e10)) ((zp_s _ _ _ _).trans hk), (f1.p (zKa_y (by decide))).p (zKa_y (by decide))⟩
theorem zYk_lF {w w2 mi : zFi} {t : zTx} {a b : Nat} {x k9 : Int32} (ea : a = zTkA t b) (h44 : a < t.1) (h63 : zLtr (t.2 a) = true) (f1 : zGq zKa w mi) (e10 : w 224 10 = nI a) (l1 : w2 224 8 = nI (zRun zLtr t a)) (l2 : zGq zK8 w2 w) (hx : x = zWo (zBs t.2 (min (zRun zLtr t a - a) 6) a 0)) (hk : k9 = if x = -9 then nI 4 else nI 1) : zYk (zp (zp w2 224 11 x) 224 9 k9) t b ∧ zGq zKa (zp (zp w2 224 11 x) 224 9 k9) mi :=
  ⟨zYk.l ea h44 h63 ((zp_k _ _ (by decide)).trans ((zp_k _ _ (by decide)).trans l1)) ((zp_k _ _ (by decide)).trans ((zp_k _ _ (by decide)).trans ((l2.2 10 (zK8_n (by decide))).trans e10))) ((zp_k _ _ (by decide)).trans ((zp_s _ _ _ _).trans hx)) (by rw [← hx]; exact (zp_s _ _ _ _).trans hk), ((((l2.w (fun j h => zK8_a h)).t f1).p (zKa_y (by decide))).p (zKa_y (by decide)))⟩
theorem zYk_dF {w w2 mi : zFi} {t : zTx} {a b k9 : Nat} (ea : a = zTkA t b) (h44 : a < t.1) (h167 : zDig (t.2 a) = true) (f1 : zGq zKa w mi) (e10 : w 224 10 = nI a) (l1 : w2 224 8 = nI (zRun zDig t a)) (l3 : w2 224 11 = nI (zVcF t.2 (t.1 - a) a 0)) (l2 : zGq zK8 w2 w) (hk : (k9 = 4 ∧ (99 < zVcF t.2 (t.1 - a) a 0 ∨ (t.2 a = 48 ∧ 1 < zRun zDig t a - a))) ∨ (k9 = 2 ∧ ¬ (99 < zVcF t.2 (t.1 - a) a 0 ∨ (t.2 a = 48 ∧ 1 < zRun zDig t a - a)))) : zYk (zp w2 224 9 (nI k9)) t b ∧ zGq zKa (zp w2 224 9 (nI k9)) mi :=
  ⟨zYk.d ea h44 h167 ((zp_k _ _ (by decide)).trans l1) ((zp_k _ _ (by decide)).trans ((l2.2 10 (zK8_n (by decide))).trans e10)) ((zp_k _ _ (by decide)).trans l3) (by rcases hk with ⟨k1, k2⟩ | ⟨k1, k2⟩ <;> subst k1 <;> first | exact Or.inl ⟨zp_s _ _ _ _, k2⟩ | exact Or.inr ⟨zp_s _ _ _ _, k2⟩), ((l2.w (fun j h => zK8_a h)).t f1).p (zKa_y (by decide))⟩
set_option maxHeartbeats 4000000 in
set_option maxRecDepth 100000 in
theorem k_X8_advances (G : zG) {D E : Nat} {t : zTx} {ml : zFl} {mr : zFr} (hr : zRf mr D E) (htw : zTxW t) {mi : zFi} {b : Nat} (ht0 : zYt mi t) (h8 : mi 224 8 = nI b) (hb : b ≤ t.1) : zMet G 3 yX8_advances cX8_advances 4 none [.ref 224] 238 mi ml mr 238 (zPv fun u b' c => zYk u t b ∧ zGq zKa u mi ∧ b' = ml ∧ c = mr) := by
  refine z_intro ([.ref 224, zx, zx, zx]) (by decide) rfl (Nat.le_of_ble_eq_true rfl) ?_
  have ht3 := htw.1
  have hA := (zTk_b hb).2.1
  refine l_X8_spaces G 0 _ hr htw (t.1 - b) b mi (by omega) ht0 h8 (fun u g1 g2 => ?_)
  have g1 : u 224 8 = nI (zTkA t b) := g1
  obtain ⟨a, ea⟩ : ∃ a, a = zTkA t b := ⟨_, rfl⟩
  rw [← ea] at g1 hA
  refine e_aload_n 27 dX8_advances_26 rfl rfl ?_
  refine e_aload_n 28 dX8_advances_27 rfl rfl ?_
  refine e_geti 31 dX8_advances_28 lf_X8_79 rfl rfl rfl (by decide) g1 ?_
  refine e_puti 34 dX8_advances_31 lf_X8_86 rfl rfl rfl rfl rfl (by decide) ?_
  have f1 : zGq zKa (zp u 224 10 (nI a)) mi := (g2.w (fun j h => zK8_a h)).p (J := zKa) (zKa_y (by decide))
  have e8 : zp u 224 10 (nI a) 224 8 = nI a := (zp_k _ _ (by decide)).trans g1
  have e10 : zp u 224 10 (nI a) 224 10 = nI a := zp_s _ _ _ _
  generalize zp u 224 10 (nI a) = w at f1 e8 e10 ⊢
  have ht := f1.x (zKa_n (by decide)) ht0
  refine e_aload_n 35 dX8_advances_34 rfl rfl ?_
  refine e_aload_n 36 dX8_advances_35 rfl rfl ?_
  refine e_geti 39 dX8_advances_36 lf_X8_79 rfl rfl rfl (by decide) e8 ?_
  refine c_Vqi 42 (ci := 8) dX8_advances_39 (k_X8_byteAt G hr htw ht (i := a) (by omega)) lm_X8_82 zi_yX8_byteAt zs_yX8_byteAt rfl rfl (by decide) rfl rfl rfl (Nat.le_of_ble_eq_true rfl) (Nat.le_of_ble_eq_true rfl) (Nat.le_of_ble_eq_true rfl) (by exact Nat.le_refl _) (by exact Nat.le_refl _) ?_
  refine e_istore_n 43 dX8_advances_42 rfl (by decide) (zst1_1 rfl) ?_
  refine e_iload_n 44 dX8_advances_43 rfl rfl ?_
  refine e_if_ge 55 47 dX8_advances_44 (by decide) rfl (fun h44 => ?_) (fun h44 => ?_)
  · have h44 := (zBy9_0 htw).mp h44
    rw [zBy9_y h44]
    have hc9 := htw.2 a h44
    refine e_iload_n 56 dX8_advances_55 rfl rfl ?_
    refine e_bipush 58 hbi_97 dX8_advances_56 rfl ?_
    refine e_bipush 60 hbi_122 dX8_advances_58 rfl ?_
    refine c_Sqi 63 dX8_advances_60 (k_X8_inN G (by decide) (by decide)) lm_X8_60 zt_yX8_in rfl rfl rfl (Nat.le_of_ble_eq_true rfl) (Nat.le_of_ble_eq_true rfl) (Nat.le_of_ble_eq_true rfl) (by exact Nat.le_refl _) (by exact Nat.le_refl _) ?_
    refine e_if_eq 159 66 dX8_advances_63 (by decide) rfl (fun h63 => ?_) (fun h63 => ?_)
    · have h63 : ¬ zLtr (t.2 a) = true := fun z => zB_0 h63 ((zLt_v hc9).mpr z)
      refine e_iload_n 160 dX8_advances_159 rfl rfl ?_
      refine e_bipush 162 hbi_48 dX8_advances_160 rfl ?_
      refine e_bipush 164 hbi_57 dX8_advances_162 rfl ?_
      refine c_Sqi 167 dX8_advances_164 (k_X8_inN G (by decide) (by decide)) lm_X8_60 zt_yX8_in rfl rfl rfl (Nat.le_of_ble_eq_true rfl) (Nat.le_of_ble_eq_true rfl) (Nat.le_of_ble_eq_true rfl) (by exact Nat.le_refl _) (by exact Nat.le_refl _) ?_
      refine e_if_eq 285 170 dX8_advances_167 (by decide) rfl (fun h167 => ?_) (fun h167 => ?_)
      · have h167 : ¬ zDig (t.2 a) = true := fun z => zB_0 h167 ((zDg_v hc9).mpr z)
        refine e_aload_n 286 dX8_advances_285 rfl rfl ?_
        refine e_dup 287 dX8_advances_286 rfl rfl ?_
        refine e_geti 290 dX8_advances_287 lf_X8_79 rfl rfl rfl (by decide) e8 ?_
        refine e_iconst 291 hic_1 dX8_advances_290 rfl ?_
        first | refine e_iaddN 292 dX8_advances_291 rfl ?_ | refine e_iadd 292 dX8_advances_291 rfl ?_
        refine e_puti 295 dX8_advances_292 lf_X8_79 rfl rfl rfl rfl rfl (by decide) ?_
        refine e_aload_n 296 dX8_advances_295 rfl rfl ?_
        refine e_iload_n 297 dX8_advances_296 rfl rfl ?_
        refine e_bipush 299 hbi_59 dX8_advances_297 rfl ?_
        refine e_icmp_neN 306 302 dX8_advances_299 (by decide) rfl (by omega) (by omega) (fun h299 => ?_) (fun h299 => ?_)
        · refine e_iconst 307 hic_4 dX8_advances_306 rfl ?_
          refine e_puti 310 dX8_advances_307 lf_X8_89 rfl rfl rfl rfl rfl (by decide) ?_
          first | have fin := zYk_oF (k9 := 3) ea h44 h63 h167 f1 e10 (if_pos h299).symm | have fin := zYk_oF (k9 := 4) ea h44 h63 h167 f1 e10 (if_neg h299).symm
          refine e_vreturn dX8_advances_310 rfl ?_
          exact ⟨rfl, fin.1, fin.2, rfl, rfl⟩
        · refine e_iconst 303 hic_3 dX8_advances_302 rfl ?_
          refine e_goto 307 dX8_advances_303 (by decide) ?_
          refine e_puti 310 dX8_advances_307 lf_X8_89 rfl rfl rfl rfl rfl (by decide) ?_
          first | have fin := zYk_oF (k9 := 3) ea h44 h63 h167 f1 e10 (if_pos h299).symm | have fin := zYk_oF (k9 := 4) ea h44 h63 h167 f1 e10 (if_neg h299).symm
          refine e_vreturn dX8_advances_310 rfl ?_
          exact ⟨rfl, fin.1, fin.2, rfl, rfl⟩
      · have h167 := (zDg_v hc9).mp (zB_1 h167)
        refine e_aload_n 171 dX8_advances_170 rfl rfl ?_
        refine e_iconst 172 hic_0 dX8_advances_171 rfl ?_
        refine e_puti 175 dX8_advances_172 lf_X8_96 rfl rfl rfl rfl rfl (by decide) ?_
        have f2 := f1.p (k := 11) (v := nI 0) (zKa_y (by decide))
        have e10z : zp w 224 11 (nI 0) 224 10 = nI a := (zp_k _ _ (by decide)).trans e10
        have ht2 := f2.x (zKa_n (by decide)) ht0
        have hge := zRun_ge zDig t a
        have hle := zRun_le zDig (Nat.le_of_lt h44)
        have hvl := zVcF_le (f := t.2) (t.1 - a) a 0 (by decide)
        refine l_X8_digits G 0 _ hr htw (t.1 - a) a _ 0 (by omega) (by decide) ht2 ((zp_k _ _ (by decide)).trans e8) (zp_s _ _ _ _) (fun w2 l1 l3 l2 => ?_)
        have l1 : w2 224 8 = nI (zRun zDig t a) := l1
        refine e_aload_n 246 dX8_advances_245 rfl rfl ?_
        refine e_aload_n 247 dX8_advances_246 rfl rfl ?_
        refine e_geti 250 dX8_advances_247 lf_X8_96 rfl rfl rfl (by decide) l3 ?_
        refine e_bipush 252 hbi_99 dX8_advances_250 rfl ?_
        refine e_icmp_gtN 274 255 dX8_advances_252 (by decide) rfl (by omega) (by omega) (fun h252 => ?_) (fun h252 => ?_)
        · refine e_iconst 275 hic_4 dX8_advances_274 rfl ?_
          refine e_goto 279 dX8_advances_275 (by decide) ?_
          refine e_puti 282 dX8_advances_279 lf_X8_89 rfl rfl rfl rfl rfl (by decide) ?_
          first | have fin := zYk_dF (k9 := 4) ea h44 h167 f2 e10z l1 l3 l2 (Or.inl ⟨rfl, by omega⟩) | have fin := zYk_dF (k9 := 2) ea h44 h167 f2 e10z l1 l3 l2 (Or.inr ⟨rfl, by omega⟩)
          refine e_goto 310 dX8_advances_282 (by decide) ?_
          refine e_vreturn dX8_advances_310 rfl ?_
          exact ⟨rfl, fin.1, fin.2, rfl, rfl⟩
        · refine e_iload_n 256 dX8_advances_255 rfl rfl ?_
          refine e_bipush 258 hbi_48 dX8_advances_256 rfl ?_
          refine e_icmp_neN 278 261 dX8_advances_258 (by decide) rfl (by omega) (by omega) (fun h258 => ?_) (fun h258 => ?_)
          · refine e_iconst 279 hic_2 dX8_advances_278 rfl ?_
            refine e_puti 282 dX8_advances_279 lf_X8_89 rfl rfl rfl rfl rfl (by decide) ?_
            first | have fin := zYk_dF (k9 := 4) ea h44 h167 f2 e10z l1 l3 l2 (Or.inl ⟨rfl, by omega⟩) | have fin := zYk_dF (k9 := 2) ea h44 h167 f2 e10z l1 l3 l2 (Or.inr ⟨rfl, by omega⟩)
            refine e_goto 310 dX8_advances_282 (by decide) ?_
            refine e_vreturn dX8_advances_310 rfl ?_
            exact ⟨rfl, fin.1, fin.2, rfl, rfl⟩
          · refine e_aload_n 262 dX8_advances_261 rfl rfl ?_
            refine e_geti 265 dX8_advances_262 lf_X8_79 rfl rfl rfl (by decide) l1 ?_
            refine e_aload_n 266 dX8_advances_265 rfl rfl ?_
            refine e_geti 269 dX8_advances_266 lf_X8_86 rfl rfl rfl (by decide) ((l2.2 10 (zK8_n (by decide))).trans (e10z)) ?_
            first | refine e_isubN 270 dX8_advances_269 rfl (by omega) ?_ | refine e_isub 270 dX8_advances_269 rfl ?_
            refine e_iconst 271 hic_1 dX8_advances_270 rfl ?_
            refine e_icmp_leN 278 274 dX8_advances_271 (by decide) rfl (by omega) (by omega) (fun h271 => ?_) (fun h271 => ?_)
            · refine e_iconst 279 hic_2 dX8_advances_278 rfl ?_
              refine e_puti 282 dX8_advances_279 lf_X8_89 rfl rfl rfl rfl rfl (by decide) ?_
              first | have fin := zYk_dF (k9 := 4) ea h44 h167 f2 e10z l1 l3 l2 (Or.inl ⟨rfl, by omega⟩) | have fin := zYk_dF (k9 := 2) ea h44 h167 f2 e10z l1 l3 l2 (Or.inr ⟨rfl, by omega⟩)
              refine e_goto 310 dX8_advances_282 (by decide) ?_
              refine e_vreturn dX8_advances_310 rfl ?_
              exact ⟨rfl, fin.1, fin.2, rfl, rfl⟩
            · refine e_iconst 275 hic_4 dX8_advances_274 rfl ?_
              refine e_goto 279 dX8_advances_275 (by decide) ?_
              refine e_puti 282 dX8_advances_279 lf_X8_89 rfl rfl rfl rfl rfl (by decide) ?_
              first | have fin := zYk_dF (k9 := 4) ea h44 h167 f2 e10z l1 l3 l2 (Or.inl ⟨rfl, by omega⟩) | have fin := zYk_dF (k9 := 2) ea h44 h167 f2 e10z l1 l3 l2 (Or.inr ⟨rfl, by omega⟩)
              refine e_goto 310 dX8_advances_282 (by decide) ?_
              refine e_vreturn dX8_advances_310 rfl ?_
              exact ⟨rfl, fin.1, fin.2, rfl, rfl⟩
    · have h63 := (zLt_v hc9).mp (zB_1 h63)
      refine e_lconst 67 (v := lN 0) rfl dX8_advances_66 rfl ?_
      refine e_lstore_n 68 dX8_advances_67 rfl (by decide) (zst2_2 rfl) ?_
      rw [show lN 0 = lN (zBs t.2 (min (a - a) 6) a 0) from by rw [Nat.sub_self]; rfl]
      refine l_X8_letters G 0 _ hr htw (t.1 - a) a w (zBs t.2 (min (a - a) 6) a 0) (by omega) (Nat.le_refl _) ht e8 e10 rfl (fun w2 l1 l2 => ?_)
      have l1 : w2 224 8 = nI (zRun zLtr t a) := l1
      refine e_aload_n 131 dX8_advances_130 rfl rfl ?_
      refine e_lload_n 132 dX8_advances_131 rfl rfl ?_
      refine c_Sqi 135 dX8_advances_132 (k_X8_wordOf G (zLv_lt htw (zRun_le zLtr (Nat.le_of_lt h44)))) lm_X8_92 zt_yX8_wordOf rfl rfl rfl (Nat.le_of_ble_eq_true rfl) (Nat.le_of_ble_eq_true rfl) (Nat.le_of_ble_eq_true rfl) (by exact Nat.le_refl _) (by exact Nat.le_refl _) ?_
      refine e_puti 138 dX8_advances_135 lf_X8_96 rfl rfl rfl rfl rfl (by decide) ?_
      refine e_aload_n 139 dX8_advances_138 rfl rfl ?_
      refine e_aload_n 140 dX8_advances_139 rfl rfl ?_
      refine e_geti 143 dX8_advances_140 lf_X8_96 rfl rfl rfl (by decide) (zp_s _ _ _ _) ?_
      refine e_bipush 145 hbi_m9 dX8_advances_143 rfl ?_
      refine e_icmp_ne 152 148 dX8_advances_145 (by decide) rfl (fun h145 => ?_) (fun h145 => ?_)
      · refine e_iconst 153 hic_1 dX8_advances_152 rfl ?_
        refine e_puti 156 dX8_advances_153 lf_X8_89 rfl rfl rfl rfl rfl (by decide) ?_
        first | have fin := zYk_lF ea h44 h63 f1 e10 l1 l2 rfl (if_pos h145).symm | have fin := zYk_lF ea h44 h63 f1 e10 l1 l2 rfl (if_neg h145).symm
        refine e_goto 310 dX8_advances_156 (by decide) ?_
        refine e_vreturn dX8_advances_310 rfl ?_
        exact ⟨rfl, fin.1, fin.2, rfl, rfl⟩
      · refine e_iconst 149 hic_4 dX8_advances_148 rfl ?_
        refine e_goto 153 dX8_advances_149 (by decide) ?_
        refine e_puti 156 dX8_advances_153 lf_X8_89 rfl rfl rfl rfl rfl (by decide) ?_
        first | have fin := zYk_lF ea h44 h63 f1 e10 l1 l2 rfl (if_pos h145).symm | have fin := zYk_lF ea h44 h63 f1 e10 l1 l2 rfl (if_neg h145).symm
        refine e_goto 310 dX8_advances_156 (by decide) ?_
        refine e_vreturn dX8_advances_310 rfl ?_
        exact ⟨rfl, fin.1, fin.2, rfl, rfl⟩
  · have h44 : ¬ a < t.1 := fun z => h44 ((zBy9_0 htw).mpr z)
    refine e_aload_n 48 dX8_advances_47 rfl rfl ?_
    refine e_iconst 49 hic_0 dX8_advances_48 rfl ?_
    refine e_puti 52 dX8_advances_49 lf_X8_89 rfl rfl rfl rfl rfl (by decide) ?_
    have fin : zYk (zp w 224 9 (nI 0)) t b ∧ zGq zKa (zp w 224 9 (nI 0)) mi := ⟨zYk.e ea h44 ((zp_k _ _ (by decide)).trans e8) ((zp_k _ _ (by decide)).trans e10) (zp_s _ _ _ _), f1.p (zKa_y (by decide))⟩
    refine e_goto 310 dX8_advances_52 (by decide) ?_
    refine e_vreturn dX8_advances_310 rfl ?_
    exact ⟨rfl, fin.1, fin.2, rfl, rfl⟩

