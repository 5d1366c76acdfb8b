/-- whether bit w of b is set -/
def zBit (b : Int32) (w : Nat) : Prop := (b >>> (nI w &&& 31)) &&& nI 1 = nI 1
def zBit_dec (b : Int32) (w : Nat) : Decidable (zBit b w) := by unfold zBit; exact inferInstance
/-- acc times f i times f (i + 1) .. (k of them) -/
def zprodA (f : Nat → Nat) : Nat → Nat → Nat → Nat
  | 0, _, acc => acc
  | k + 1, i, acc => zprodA f k (i + 1) (acc * f i)
theorem zprodA_le {f : Nat → Nat} {M : Nat} : ∀ (k i acc : Nat), (∀ j, i ≤ j → j < i + k → f j ≤ M) → zprodA f k i acc ≤ acc * M ^ k
  | 0, _, acc, _ => by simp [zprodA]
  | k + 1, i, acc, h => by
    have h1 := zprodA_le (f := f) (M := M) k (i + 1) (acc * f i) (fun j h1 h2 => h j (by omega) (by omega))
    have h2 : acc * f i * M ^ k ≤ acc * M * M ^ k := Nat.mul_le_mul_right _ (Nat.mul_le_mul_left _ (h i (Nat.le_refl i) (by omega)))
    have h3 : acc * M ^ (k + 1) = acc * M * M ^ k := by rw [Nat.pow_succ, Nat.mul_assoc, Nat.mul_comm M]
    rw [h3]
    exact Nat.le_trans h1 h2
theorem zprodA_congr {f g : Nat → Nat} : ∀ (k i acc : Nat), (∀ j, i ≤ j → j < i + k → f j = g j) → zprodA f k i acc = zprodA g k i acc
  | 0, _, _, _ => rfl
  | k + 1, i, acc, h => by
    show zprodA f k (i + 1) _ = zprodA g k (i + 1) _
    rw [h i (Nat.le_refl i) (by omega), zprodA_congr k (i + 1) _ (fun j h1 h2 => h j (by omega) (by omega))]
/-- what a word gives to a weight -/
def zWf1 (on nt : Int32) (sh : Nat → Nat) : Nat → Nat := fun w => @ite _ (zBit on w) (zBit_dec on w) (sh w) (@ite _ (zBit nt w) (zBit_dec nt w) (1000 - sh w) 1)
def zWt (W : Nat) (on nt : Int32) (sh : Nat → Nat) : Nat := zprodA (zWf1 on nt sh) W 0 1
theorem zWf1_le {on nt : Int32} {sh : Nat → Nat} {w : Nat} (h : sh w ≤ 1000) : zWf1 on nt sh w ≤ 1000 := by
  unfold zWf1
  by_cases q : zBit on w
  · rw [iteP q]; exact h
  · rw [iteN q]
    by_cases r : zBit nt w
    · rw [iteP r]; omega
    · rw [iteN r]; omega
theorem zWt_le {W : Nat} {on nt : Int32} {sh : Nat → Nat} (hW : W ≤ 5) (h : ∀ w, w < W → sh w ≤ 1000) : zWt W on nt sh ≤ 1000000000000000 := by
  have h1 := zprodA_le (f := zWf1 on nt sh) (M := 1000) W 0 1 (fun j _ h2 => zWf1_le (h j (by omega)))
  have h2 : 1000 ^ W ≤ 1000 ^ 5 := Nat.pow_le_pow_right (by decide) hW
  unfold zWt
  omega
theorem lN_lt63 {a b : Nat} (ha : a < 2 ^ 63) (hb : b < 2 ^ 63) : (lN a < lN b ↔ a < b) ∧ (lN a = lN b ↔ a = b) := by
  have key : ∀ n : Nat, n < 2 ^ 63 → (lN n).toInt = (n : Int) := fun n h => by
    unfold lN
    rw [Int64.toInt_ofNat']
    have e9 : (Int64.size : Int) = 18446744073709551616 := rfl
    apply Int.bmod_eq_of_le <;> omega
  constructor
  · rw [Int64.lt_iff_toInt_lt, key a ha, key b hb]; omega
  · constructor
    · intro h
      have := congrArg Int64.toInt h
      rw [key a ha, key b hb] at this
      omega
    · intro h; rw [h]
set_option maxHeartbeats 4000000 in
set_option maxRecDepth 100000 in
theorem k_X7_isIn (G : zG) {b : Int32} {w : Nat} {mi : zFi} {ml : zFl} {mr : zFr} : zMet G 0 yX7_isIn cX7_isIn 2 (some .boolean) [.int b, .int (nI w)] 238 mi ml mr 238 (zPq (some (.int (zB (zBit b w) (zBit_dec b w)))) mi ml mr) := by
  refine z_intro ([.int b, .int (nI w)]) (by decide) rfl (Nat.le_of_ble_eq_true rfl) ?_
  refine e_iload_n 1 dX7_isIn_0 rfl rfl ?_
  refine e_iload_n 2 dX7_isIn_1 rfl rfl ?_
  refine e_ishr 3 dX7_isIn_2 rfl ?_
  refine e_iconst 4 hic_1 dX7_isIn_3 rfl ?_
  refine e_iand 5 dX7_isIn_4 rfl ?_
  refine e_iconst 6 hic_1 dX7_isIn_5 rfl ?_
  refine e_icmp_ne 13 9 dX7_isIn_6 (by decide) rfl (fun h6 => ?_) (fun h6 => ?_)
  · refine e_iconst 14 hic_0 dX7_isIn_13 rfl ?_
    refine e_ireturn .boolean dX7_isIn_14 rfl rfl ?_
    refine ⟨someI ?_, rfl, rfl, rfl⟩
    unfold zB
    first
      | exact if_pos h6
      | exact if_neg h6
  · refine e_iconst 10 hic_1 dX7_isIn_9 rfl ?_
    refine e_goto 14 dX7_isIn_10 (by decide) ?_
    refine e_ireturn .boolean dX7_isIn_14 rfl rfl ?_
    refine ⟨someI ?_, rfl, rfl, rfl⟩
    unfold zB
    first
      | exact if_pos h6
      | exact if_neg h6

set_option maxHeartbeats 4000000 in
set_option maxRecDepth 100000 in
theorem l_X7_weight (G : zG) (d : Nat) (Q : zQ) {D E : Nat} {Λ : zLd} {late : Nat} {tr : Int64} {t : zTx} {m : zMo} {im : Nat → Nat × zMo} {l : zLt} {r : zWr} {mi : zFi} {ml : zFl} {mr : zFr} (hr : zRf mr D E) (hX : zX mi ml D Λ late tr t m im l r) (hF : zWf Λ late t m im l r) {on nt : Int32} {a p : Nat} (ha : 10 ≤ a) (ha2 : a ≤ 69) (hp : p < Λ 0 0) : ∀ (k w v : Nat) (v8 : Value), w + k = Λ 0 1 → Q (some (.long (lN (zprodA (zWf1 on nt (fun w => (m.2.2.2 w).1 p a)) k w v)))) mi ml mr → zE G (zRm (d + 1) 238 238) (zQm G 238 238 Q) yX7_weight.cls yX7_weight.name cX7_weight 9 (some .long) 238 6 [.ref 0, .int on, .int nt, .int (nI a), .int (nI p), .long (lN v), zx, .int (nI w), v8] [] 238 mi ml mr := by
  intro k
  induction k with
  | zero =>
    intro w v v8 h hQ
    obtain ⟨hΛ, hlate, htr, ht, hm, him, hl, hw, hn72⟩ := id hX
    obtain ⟨hW, hla30, htw, hmw, himw, hlw, hrw⟩ := id hF
    have hP3 := hW.1.1
    have hW5 := hW.1.2.1
    have hy99 := hmw.1
    have hD9 := hr.Dl
    refine e_iload 8 dX7_weight_6 rfl rfl ?_
    refine e_aload_n 9 dX7_weight_8 rfl rfl ?_
    refine e_getr 12 dX7_weight_9 lf_X7_62 rfl rfl rfl (by decide) hr.land ?_
    refine e_geti 15 dX7_weight_12 lf_X7_222 rfl rfl hr.dD.k0 hr.dD.l0 (hΛ.f1) ?_
    refine e_icmp_geN 85 18 dX7_weight_15 (by decide) rfl (by omega) (by omega) (fun h15 => ?_) (fun h15 => ?_)
    · refine e_lload 87 dX7_weight_85 rfl rfl ?_
      refine e_lreturn dX7_weight_87 rfl ?_
      exact hQ
    · exact absurd h15 (by omega)
  | succ k ih =>
    intro w v v8 h hQ
    obtain ⟨hΛ, hlate, htr, ht, hm, him, hl, hw, hn72⟩ := id hX
    obtain ⟨hW, hla30, htw, hmw, himw, hlw, hrw⟩ := id hF
    have hP3 := hW.1.1
    have hW5 := hW.1.2.1
    have hy99 := hmw.1
    have hD9 := hr.Dl
    have e0 : zprodA (zWf1 on nt (fun w => (m.2.2.2 w).1 p a)) (k + 1) w v = zprodA (zWf1 on nt (fun w => (m.2.2.2 w).1 p a)) k (w + 1) (v * zWf1 on nt (fun w => (m.2.2.2 w).1 p a) w) := rfl
    rw [e0] at hQ
    refine e_iload 8 dX7_weight_6 rfl rfl ?_
    refine e_aload_n 9 dX7_weight_8 rfl rfl ?_
    refine e_getr 12 dX7_weight_9 lf_X7_62 rfl rfl rfl (by decide) hr.land ?_
    refine e_geti 15 dX7_weight_12 lf_X7_222 rfl rfl hr.dD.k0 hr.dD.l0 (hΛ.f1) ?_
    refine e_icmp_geN 85 18 dX7_weight_15 (by decide) rfl (by omega) (by omega) (fun h15 => ?_) (fun h15 => ?_)
    · exact absurd h15 (by omega)
    · refine e_aload_n 19 dX7_weight_18 rfl rfl ?_
      refine e_getr 22 dX7_weight_19 lf_X7_19 rfl rfl rfl (by decide) hr.now ?_
      refine e_getr 25 dX7_weight_22 lf_X7_159 rfl rfl rfl (by decide) hr.m3.r3 ?_
      refine e_iload 27 dX7_weight_25 rfl rfl ?_
      refine e_aald 28 dX7_weight_27 rfl hr.m3.k6 hr.m3.l6 rfl (hr.m3.n6 (by omega)) (hr.m3.lv (by omega)) ?_
      refine e_getr 31 dX7_weight_28 lf_X7_163 rfl rfl (hr.m3.lf (w := w) (by omega)).k0 (hr.m3.lf (w := w) (by omega)).l0 (hr.m3.lf (w := w) (by omega)).r0 ?_
      refine e_iload 33 dX7_weight_31 rfl rfl ?_
      refine e_aald 34 dX7_weight_33 rfl (hr.m3.lf (w := w) (by omega)).k1 (hr.m3.lf (w := w) (by omega)).l1 rfl ((hr.m3.lf (w := w) (by omega)).n1 (by omega)) ((hr.m3.lf (w := w) (by omega)).sh (by omega)) ?_
      refine e_iload_n 35 dX7_weight_34 rfl rfl ?_
      refine e_iald 36 dX7_weight_35 rfl ((hr.m3.lf (w := w) (by omega)).ks (by omega)) ((hr.m3.lf (w := w) (by omega)).ls (by omega)) rfl ((hr.m3.lf (w := w) (by omega)).na (by omega) (by omega)) ((hm.2.2.2 w h15).1 p hp a ha ha2) ?_
      have hsh := (hmw.2.2 w h15).1.1 p hp a ha ha2
      refine e_istore 38 dX7_weight_36 rfl (by decide) (zst1_8 rfl) ?_
      refine e_iload_n 39 dX7_weight_38 rfl rfl ?_
      refine e_iload 41 dX7_weight_39 rfl rfl ?_
      refine c_Sqi 44 dX7_weight_41 (k_X7_isIn G) lm_X7_245 zt_yX7_isIn rfl rfl rfl (Nat.le_of_ble_eq_true rfl) (Nat.le_of_ble_eq_true rfl) (Nat.le_of_ble_eq_true rfl) (by exact Nat.le_refl _) (by exact Nat.le_refl _) ?_
      refine e_if_eq 58 47 dX7_weight_44 (by decide) rfl (fun h44 => ?_) (fun h44 => ?_)
      · have h44 := zB_0 h44
        refine e_iload_n 59 dX7_weight_58 rfl rfl ?_
        refine e_iload 61 dX7_weight_59 rfl rfl ?_
        refine c_Sqi 64 dX7_weight_61 (k_X7_isIn G) lm_X7_245 zt_yX7_isIn rfl rfl rfl (Nat.le_of_ble_eq_true rfl) (Nat.le_of_ble_eq_true rfl) (Nat.le_of_ble_eq_true rfl) (by exact Nat.le_refl _) (by exact Nat.le_refl _) ?_
        refine e_if_eq 79 67 dX7_weight_64 (by decide) rfl (fun h64 => ?_) (fun h64 => ?_)
        · have h64 := zB_0 h64
          refine e_iinc 82 dX7_weight_79 rfl (by decide) rfl (z_inc hii_1) (zst1_7 rfl) ?_
          refine e_goto 6 dX7_weight_82 (by decide) ?_
          first
            | (have e1 : zWf1 on nt (fun w => (m.2.2.2 w).1 p a) w = (m.2.2.2 w).1 p a := iteP h44; rw [e1] at hQ; exact ih (w + 1) _ _ (by omega) hQ)
            | (have e1 : zWf1 on nt (fun w => (m.2.2.2 w).1 p a) w = 1000 - (m.2.2.2 w).1 p a := (iteN h44).trans (iteP h64); rw [e1] at hQ; exact ih (w + 1) _ _ (by omega) hQ)
            | (have e1 : zWf1 on nt (fun w => (m.2.2.2 w).1 p a) w = 1 := (iteN h44).trans (iteN h64); rw [e1, Nat.mul_one] at hQ; exact ih (w + 1) _ _ (by omega) hQ)
        · have h64 := zB_1 h64
          refine e_lload 69 dX7_weight_67 rfl rfl ?_
          refine e_sipush 72 hsi_1000 dX7_weight_69 rfl ?_
          refine e_iload 74 dX7_weight_72 rfl rfl ?_
          first | refine e_isubN 75 dX7_weight_74 rfl (by omega) ?_ | refine e_isub 75 dX7_weight_74 rfl ?_
          refine e_i2l 76 dX7_weight_75 rfl ?_
          rw [nI_l (by omega)]
          refine e_lmul 77 dX7_weight_76 rfl ?_
          rw [lN_mul]
          refine e_lstore 79 dX7_weight_77 rfl (by decide) (zst2_5 rfl) ?_
          refine e_iinc 82 dX7_weight_79 rfl (by decide) rfl (z_inc hii_1) (zst1_7 rfl) ?_
          refine e_goto 6 dX7_weight_82 (by decide) ?_
          first
            | (have e1 : zWf1 on nt (fun w => (m.2.2.2 w).1 p a) w = (m.2.2.2 w).1 p a := iteP h44; rw [e1] at hQ; exact ih (w + 1) _ _ (by omega) hQ)
            | (have e1 : zWf1 on nt (fun w => (m.2.2.2 w).1 p a) w = 1000 - (m.2.2.2 w).1 p a := (iteN h44).trans (iteP h64); rw [e1] at hQ; exact ih (w + 1) _ _ (by omega) hQ)
            | (have e1 : zWf1 on nt (fun w => (m.2.2.2 w).1 p a) w = 1 := (iteN h44).trans (iteN h64); rw [e1, Nat.mul_one] at hQ; exact ih (w + 1) _ _ (by omega) hQ)
      · have h44 := zB_1 h44
        refine e_lload 49 dX7_weight_47 rfl rfl ?_
        refine e_iload 51 dX7_weight_49 rfl rfl ?_
        refine e_i2l 52 dX7_weight_51 rfl ?_
        rw [nI_l (by omega)]
        refine e_lmul 53 dX7_weight_52 rfl ?_
        rw [lN_mul]
        refine e_lstore 55 dX7_weight_53 rfl (by decide) (zst2_5 rfl) ?_
        refine e_goto 79 dX7_weight_55 (by decide) ?_
        refine e_iinc 82 dX7_weight_79 rfl (by decide) rfl (z_inc hii_1) (zst1_7 rfl) ?_
        refine e_goto 6 dX7_weight_82 (by decide) ?_
        first
          | (have e1 : zWf1 on nt (fun w => (m.2.2.2 w).1 p a) w = (m.2.2.2 w).1 p a := iteP h44; rw [e1] at hQ; exact ih (w + 1) _ _ (by omega) hQ)
          | (have e1 : zWf1 on nt (fun w => (m.2.2.2 w).1 p a) w = 1000 - (m.2.2.2 w).1 p a := (iteN h44).trans (iteP h64); rw [e1] at hQ; exact ih (w + 1) _ _ (by omega) hQ)
          | (have e1 : zWf1 on nt (fun w => (m.2.2.2 w).1 p a) w = 1 := (iteN h44).trans (iteN h64); rw [e1, Nat.mul_one] at hQ; exact ih (w + 1) _ _ (by omega) hQ)
set_option maxHeartbeats 4000000 in
set_option maxRecDepth 100000 in
theorem k_X7_weight (G : zG) {D E : Nat} {Λ : zLd} {late : Nat} {tr : Int64} {t : zTx} {m : zMo} {im : Nat → Nat × zMo} {l : zLt} {r : zWr} {mi : zFi} {ml : zFl} {mr : zFr} (hr : zRf mr D E) (hX : zX mi ml D Λ late tr t m im l r) (hF : zWf Λ late t m im l r) {on nt : Int32} {a p : Nat} (ha : 10 ≤ a) (ha2 : a ≤ 69) (hp : p < Λ 0 0) : zMet G 1 yX7_weight cX7_weight 9 (some .long) [.ref 0, .int on, .int nt, .int (nI a), .int (nI p)] 238 mi ml mr 238 (zPq (some (.long (lN (zWt (Λ 0 1) on nt (fun w => (m.2.2.2 w).1 p a))))) mi ml mr) := by
  refine z_intro ([.ref 0, .int on, .int nt, .int (nI a), .int (nI p), zx, zx, zx, zx]) (by decide) rfl (Nat.le_of_ble_eq_true rfl) ?_
  refine e_lconst 1 (v := lN 1) rfl dX7_weight_0 rfl ?_
  refine e_lstore 3 dX7_weight_1 rfl (by decide) (zst2_5 rfl) ?_
  refine e_iconst 4 hic_0 dX7_weight_3 rfl ?_
  refine e_istore 6 dX7_weight_4 rfl (by decide) (zst1_7 rfl) ?_
  exact l_X7_weight G _ _ hr hX hF ha ha2 hp (Λ 0 1) 0 1 _ (by omega) ⟨rfl, rfl, rfl, rfl⟩

def zWa (Λ : zLd) (m : zMo) (on nt : Int32) (a p : Nat) : Nat := zWt (Λ 0 1) on nt (fun w => (m.2.2.2 w).1 p a)
/-- the weights of the ages a .. b, of all places -/
def zWs9 (Λ : zLd) (m : zMo) (on nt : Int32) (a b : Nat) : Nat := zsum (fun x => zsum (fun p => zWa Λ m on nt x p) 0 (Λ 0 0)) a (b + 1 - a)
theorem zWa_le {Λ : zLd} {m : zMo} {on nt : Int32} {a p : Nat} (hW : zLandW Λ) (hm : zMoW Λ m) (ha : 10 ≤ a) (ha2 : a ≤ 69) (hp : p < Λ 0 0) : zWa Λ m on nt a p ≤ 1000000000000000 := zWt_le hW.1.2.1 (fun w hw => (hm.2.2 w hw).1.1 p hp a ha ha2)
theorem zWp_le {Λ : zLd} {m : zMo} {on nt : Int32} {a : Nat} (hW : zLandW Λ) (hm : zMoW Λ m) (ha : 10 ≤ a) (ha2 : a ≤ 69) : zsum (fun p => zWa Λ m on nt a p) 0 (Λ 0 0) ≤ 3000000000000000 := by
  have h1 := zsum_le (f := fun p => zWa Λ m on nt a p) (M := 1000000000000000) (Λ 0 0) 0 (fun p _ h2 => zWa_le hW hm ha ha2 (by omega))
  have h2 : Λ 0 0 * 1000000000000000 ≤ 3 * 1000000000000000 := Nat.mul_le_mul_right _ hW.1.1
  omega
theorem zWs_le9 {Λ : zLd} {m : zMo} {on nt : Int32} {a b : Nat} (hW : zLandW Λ) (hm : zMoW Λ m) (ha : 10 ≤ a) (hb : b ≤ 69) : zWs9 Λ m on nt a b ≤ 180000000000000000 := by
  have h1 := zsum_le (f := fun x => zsum (fun p => zWa Λ m on nt x p) 0 (Λ 0 0)) (M := 3000000000000000) (b + 1 - a) a (fun x h1 h2 => zWp_le hW hm (by omega) (by omega))
  have h2 : (b + 1 - a) * 3000000000000000 ≤ 60 * 3000000000000000 := Nat.mul_le_mul_right _ (by omega)
  unfold zWs9
  omega
set_option maxHeartbeats 4000000 in
set_option maxRecDepth 100000 in
theorem m_X7_weights (G : zG) (d : Nat) (Q : zQ) {D E : Nat} {Λ : zLd} {late : Nat} {tr : Int64} {t : zTx} {m : zMo} {im : Nat → Nat × zMo} {l : zLt} {r : zWr} {mi : zFi} {ml : zFl} {mr : zFr} (hr : zRf mr D E) (hX : zX mi ml D Λ late tr t m im l r) (hF : zWf Λ late t m im l r) {on nt : Int32} {a b x : Nat} (hx1 : 10 ≤ x) (hx2 : x ≤ 69) : ∀ (k p s : Nat), p + k = Λ 0 0 → zE G (zRm (d + 2) 238 238) (zQm G 238 238 Q) yX7_weights.cls yX7_weights.name cX7_weights 9 (some .long) 238 49 [.ref 0, .int on, .int nt, .int (nI a), .int (nI b), .long (lN (s + zsum (fun p => zWa Λ m on nt x p) p k)), zx, .int (nI x), .int (nI (Λ 0 0))] [] 238 mi ml mr → zE G (zRm (d + 2) 238 238) (zQm G 238 238 Q) yX7_weights.cls yX7_weights.name cX7_weights 9 (some .long) 238 16 [.ref 0, .int on, .int nt, .int (nI a), .int (nI b), .long (lN s), zx, .int (nI x), .int (nI p)] [] 238 mi ml mr := by
  intro k
  induction k with
  | zero =>
    intro p s h hQ
    obtain ⟨hΛ, hlate, htr, ht, hm, him, hl, hw, hn72⟩ := id hX
    obtain ⟨hW, hla30, htw, hmw, himw, hlw, hrw⟩ := id hF
    have hP3 := hW.1.1
    have hW5 := hW.1.2.1
    have hy99 := hmw.1
    have hD9 := hr.Dl
    refine e_iload 18 dX7_weights_16 rfl rfl ?_
    refine e_aload_n 19 dX7_weights_18 rfl rfl ?_
    refine e_getr 22 dX7_weights_19 lf_X7_62 rfl rfl rfl (by decide) hr.land ?_
    refine e_geti 25 dX7_weights_22 lf_X7_184 rfl rfl hr.dD.k0 hr.dD.l0 (hΛ.f0) ?_
    refine e_icmp_geN 49 28 dX7_weights_25 (by decide) rfl (by omega) (by omega) (fun h25 => ?_) (fun h25 => ?_)
    · have ep : p = Λ 0 0 := by omega
      rw [ep]
      rw [ep] at hQ
      exact hQ
    · exact absurd h25 (by omega)
  | succ k ih =>
    intro p s h hQ
    obtain ⟨hΛ, hlate, htr, ht, hm, him, hl, hw, hn72⟩ := id hX
    obtain ⟨hW, hla30, htw, hmw, himw, hlw, hrw⟩ := id hF
    have hP3 := hW.1.1
    have hW5 := hW.1.2.1
    have hy99 := hmw.1
    have hD9 := hr.Dl
    have e0 : s + zsum (fun p => zWa Λ m on nt x p) p (k + 1) = s + zWa Λ m on nt x p + zsum (fun p => zWa Λ m on nt x p) (p + 1) k := by show s + (zWa Λ m on nt x p + _) = _; rw [Nat.add_assoc]
    rw [e0] at hQ
    refine e_iload 18 dX7_weights_16 rfl rfl ?_
    refine e_aload_n 19 dX7_weights_18 rfl rfl ?_
    refine e_getr 22 dX7_weights_19 lf_X7_62 rfl rfl rfl (by decide) hr.land ?_
    refine e_geti 25 dX7_weights_22 lf_X7_184 rfl rfl hr.dD.k0 hr.dD.l0 (hΛ.f0) ?_
    refine e_icmp_geN 49 28 dX7_weights_25 (by decide) rfl (by omega) (by omega) (fun h25 => ?_) (fun h25 => ?_)
    · exact absurd h25 (by omega)
    · refine e_lload 30 dX7_weights_28 rfl rfl ?_
      refine e_aload_n 31 dX7_weights_30 rfl rfl ?_
      refine e_iload_n 32 dX7_weights_31 rfl rfl ?_
      refine e_iload_n 33 dX7_weights_32 rfl rfl ?_
      refine e_iload 35 dX7_weights_33 rfl rfl ?_
      refine e_iload 37 dX7_weights_35 rfl rfl ?_
      refine c_Vql 40 (ci := 7) dX7_weights_37 (k_X7_weight G hr hX hF hx1 hx2 h25) lm_X7_219 zi_yX7_weight zs_yX7_weight rfl (by first | rfl | assumption) (by first | decide | omega) rfl rfl rfl (Nat.le_of_ble_eq_true rfl) (Nat.le_of_ble_eq_true rfl) (Nat.le_of_ble_eq_true rfl) (by exact Nat.le_refl _) (by exact Nat.le_refl _) ?_
      refine e_ladd 41 dX7_weights_40 rfl ?_
      rw [lN_add]
      refine e_lstore 43 dX7_weights_41 rfl (by decide) (zst2_5 rfl) ?_
      refine e_iinc 46 dX7_weights_43 rfl (by decide) rfl (z_inc hii_1) (zst1_8 rfl) ?_
      refine e_goto 16 dX7_weights_46 (by decide) ?_
      exact ih (p + 1) _ (by omega) hQ
set_option maxHeartbeats 4000000 in
set_option maxRecDepth 100000 in
theorem l_X7_weights (G : zG) (d : Nat) (Q : zQ) {D E : Nat} {Λ : zLd} {late : Nat} {tr : Int64} {t : zTx} {m : zMo} {im : Nat → Nat × zMo} {l : zLt} {r : zWr} {mi : zFi} {ml : zFl} {mr : zFr} (hr : zRf mr D E) (hX : zX mi ml D Λ late tr t m im l r) (hF : zWf Λ late t m im l r) {on nt : Int32} {a b : Nat} (hb : b ≤ 69) : ∀ (k x s : Nat) (v8 : Value), 10 ≤ x → x + k = b + 1 → Q (some (.long (lN (s + zsum (fun x => zsum (fun p => zWa Λ m on nt x p) 0 (Λ 0 0)) x k)))) mi ml mr → zE G (zRm (d + 2) 238 238) (zQm G 238 238 Q) yX7_weights.cls yX7_weights.name cX7_weights 9 (some .long) 238 6 [.ref 0, .int on, .int nt, .int (nI a), .int (nI b), .long (lN s), zx, .int (nI x), v8] [] 238 mi ml mr := by
  intro k
  induction k with
  | zero =>
    intro x s v8 h10 h hQ
    obtain ⟨hΛ, hlate, htr, ht, hm, him, hl, hw, hn72⟩ := id hX
    obtain ⟨hW, hla30, htw, hmw, himw, hlw, hrw⟩ := id hF
    have hP3 := hW.1.1
    have hW5 := hW.1.2.1
    have hy99 := hmw.1
    have hD9 := hr.Dl
    refine e_iload 8 dX7_weights_6 rfl rfl ?_
    refine e_iload 10 dX7_weights_8 rfl rfl ?_
    refine e_icmp_gtN 55 13 dX7_weights_10 (by decide) rfl (by omega) (by omega) (fun h10' => ?_) (fun h10' => ?_)
    · refine e_lload 57 dX7_weights_55 rfl rfl ?_
      refine e_lreturn dX7_weights_57 rfl ?_
      exact hQ
    · exact absurd h10' (by omega)
  | succ k ih =>
    intro x s v8 h10 h hQ
    obtain ⟨hΛ, hlate, htr, ht, hm, him, hl, hw, hn72⟩ := id hX
    obtain ⟨hW, hla30, htw, hmw, himw, hlw, hrw⟩ := id hF
    have hP3 := hW.1.1
    have hW5 := hW.1.2.1
    have hy99 := hmw.1
    have hD9 := hr.Dl
    have e0 : s + zsum (fun x => zsum (fun p => zWa Λ m on nt x p) 0 (Λ 0 0)) x (k + 1) = s + zsum (fun p => zWa Λ m on nt x p) 0 (Λ 0 0) + zsum (fun x => zsum (fun p => zWa Λ m on nt x p) 0 (Λ 0 0)) (x + 1) k := by show s + (_ + _) = _; rw [Nat.add_assoc]
    rw [e0] at hQ
    refine e_iload 8 dX7_weights_6 rfl rfl ?_
    refine e_iload 10 dX7_weights_8 rfl rfl ?_
    refine e_icmp_gtN 55 13 dX7_weights_10 (by decide) rfl (by omega) (by omega) (fun h10' => ?_) (fun h10' => ?_)
    · exact absurd h10' (by omega)
    · refine e_iconst 14 hic_0 dX7_weights_13 rfl ?_
      refine e_istore 16 dX7_weights_14 rfl (by decide) (zst1_8 rfl) ?_
      refine m_X7_weights G _ _ hr hX hF h10 (by omega) (Λ 0 0) 0 s (by omega) ?_
      refine e_iinc 52 dX7_weights_49 rfl (by decide) rfl (z_inc hii_1) (zst1_7 rfl) ?_
      refine e_goto 6 dX7_weights_52 (by decide) ?_
      exact ih (x + 1) _ _ (by omega) (by omega) hQ
set_option maxHeartbeats 4000000 in
set_option maxRecDepth 100000 in
theorem k_X7_weights (G : zG) {D E : Nat} {Λ : zLd} {late : Nat} {tr : Int64} {t : zTx} {m : zMo} {im : Nat → Nat × zMo} {l : zLt} {r : zWr} {mi : zFi} {ml : zFl} {mr : zFr} (hr : zRf mr D E) (hX : zX mi ml D Λ late tr t m im l r) (hF : zWf Λ late t m im l r) {on nt : Int32} {a b : Nat} (ha : 10 ≤ a) (hab : a ≤ b + 1) (hb : b ≤ 69) : zMet G 2 yX7_weights cX7_weights 9 (some .long) [.ref 0, .int on, .int nt, .int (nI a), .int (nI b)] 238 mi ml mr 238 (zPq (some (.long (lN (zWs9 Λ m on nt a b)))) mi ml mr) := by
  refine z_intro ([.ref 0, .int on, .int nt, .int (nI a), .int (nI b), zx, zx, zx, zx]) (by decide) rfl (Nat.le_of_ble_eq_true rfl) ?_
  refine e_lconst 1 (v := lN 0) rfl dX7_weights_0 rfl ?_
  refine e_lstore 3 dX7_weights_1 rfl (by decide) (zst2_5 rfl) ?_
  refine e_iload_n 4 dX7_weights_3 rfl rfl ?_
  refine e_istore 6 dX7_weights_4 rfl (by decide) (zst1_7 rfl) ?_
  exact l_X7_weights G _ _ hr hX hF hb (b + 1 - a) a 0 _ ha (by omega) ⟨by rw [Nat.zero_add]; rfl, rfl, rfl, rfl⟩

