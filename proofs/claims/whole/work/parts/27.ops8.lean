theorem lN_rem {x y : Nat} (hx : x < 2 ^ 62) (hy : y < 2 ^ 62) : lN x - lN x / lN y * lN y = lN (x % y) := by
  rw [lN_div (by omega) (by omega), lN_mul, lN_sub (Nat.div_mul_le_self x y)]
  congr 1
  rw [Nat.mod_def, Nat.mul_comm]
theorem lN_ne0 {y : Nat} (hy : y < 2 ^ 62) (h : 0 < y) : ¬ lN y = 0 := by
  intro q
  have e : (0 : Int64) = lN 0 := rfl
  rw [e, (lN_lt63 (by omega) (by decide)).2] at q
  omega
set_option maxHeartbeats 4000000 in
set_option maxRecDepth 100000 in
theorem s_X7_cd (G : zG) (d : Nat) (Q : zQ) {A B : Int64} {mi : zFi} {ml : zFl} {mr : zFr} {x y i : Nat} {v9 v10 : Value} (hx : x < 2 ^ 62) (hy : y < 2 ^ 62) (h0 : 0 < y) (hi : i < 1000) (hQ : ∀ v9 v10, zE G (zRm d 238 238) (zQm G 238 238 Q) yX7_commonDivisor.cls yX7_commonDivisor.name cX7_commonDivisor 11 (some .long) 238 9 [.long A, zx, .long B, zx, .long (lN y), zx, .long (lN (x % y)), zx, .int (nI (i + 1)), v9, v10] [] 238 mi ml mr) : zE G (zRm d 238 238) (zQm G 238 238 Q) yX7_commonDivisor.cls yX7_commonDivisor.name cX7_commonDivisor 11 (some .long) 238 9 [.long A, zx, .long B, zx, .long (lN x), zx, .long (lN y), zx, .int (nI i), v9, v10] [] 238 mi ml mr := by
  refine e_iload 11 dX7_commonDivisor_9 rfl rfl ?_
  refine e_sipush 14 hsi_1000 dX7_commonDivisor_11 rfl ?_
  refine e_icmp_geN 45 17 dX7_commonDivisor_14 (by decide) rfl (by omega) (by omega) (fun h14 => ?_) (fun h14 => ?_)
  · exact absurd h14 (by omega)
  · refine e_lload 19 dX7_commonDivisor_17 rfl rfl ?_
    refine e_lconst 20 (v := lN 0) rfl dX7_commonDivisor_19 rfl ?_
    refine e_lcmp 21 dX7_commonDivisor_20 rfl ?_
    refine e_if_eq 45 24 dX7_commonDivisor_21 (by decide) rfl (fun h21 => ?_) (fun h21 => ?_)
    · exact absurd ((lN_lt63 (by omega) (by decide)).2.mp ((lg_cmp_eq _ _).mp h21)) (by omega)
    · refine e_lload 26 dX7_commonDivisor_24 rfl rfl ?_
      refine e_lload 28 dX7_commonDivisor_26 rfl rfl ?_
      refine e_lrem 29 dX7_commonDivisor_28 rfl (lN_ne0 hy h0) ?_
      rw [lN_rem hx hy]
      refine e_lstore 31 dX7_commonDivisor_29 rfl (by decide) (zst2_9 rfl) ?_
      refine e_lload 33 dX7_commonDivisor_31 rfl rfl ?_
      refine e_lstore 35 dX7_commonDivisor_33 rfl (by decide) (zst2_4 rfl) ?_
      refine e_lload 37 dX7_commonDivisor_35 rfl rfl ?_
      refine e_lstore 39 dX7_commonDivisor_37 rfl (by decide) (zst2_6 rfl) ?_
      refine e_iinc 42 dX7_commonDivisor_39 rfl (by decide) rfl (z_inc hii_1) (zst1_8 rfl) ?_
      refine e_goto 9 dX7_commonDivisor_42 (by decide) ?_
      exact hQ _ _
set_option maxHeartbeats 4000000 in
set_option maxRecDepth 100000 in
theorem x_X7_cd (G : zG) (d : Nat) (Q : zQ) {A B : Int64} {mi : zFi} {ml : zFl} {mr : zFr} {x i : Nat} {v9 v10 : Value} (hi : i ≤ 1000) (hQ : Q (some (.long (lN x))) mi ml mr) : zE G (zRm d 238 238) (zQm G 238 238 Q) yX7_commonDivisor.cls yX7_commonDivisor.name cX7_commonDivisor 11 (some .long) 238 9 [.long A, zx, .long B, zx, .long (lN x), zx, .long (lN 0), zx, .int (nI i), v9, v10] [] 238 mi ml mr := by
  refine e_iload 11 dX7_commonDivisor_9 rfl rfl ?_
  refine e_sipush 14 hsi_1000 dX7_commonDivisor_11 rfl ?_
  refine e_icmp_geN 45 17 dX7_commonDivisor_14 (by decide) rfl (by omega) (by omega) (fun h14 => ?_) (fun h14 => ?_)
  · refine e_lload 47 dX7_commonDivisor_45 rfl rfl ?_
    refine e_lreturn dX7_commonDivisor_47 rfl ?_
    exact hQ
  · refine e_lload 19 dX7_commonDivisor_17 rfl rfl ?_
    refine e_lconst 20 (v := lN 0) rfl dX7_commonDivisor_19 rfl ?_
    refine e_lcmp 21 dX7_commonDivisor_20 rfl ?_
    refine e_if_eq 45 24 dX7_commonDivisor_21 (by decide) rfl (fun h21 => ?_) (fun h21 => ?_)
    · refine e_lload 47 dX7_commonDivisor_45 rfl rfl ?_
      refine e_lreturn dX7_commonDivisor_47 rfl ?_
      exact hQ
    · exact absurd ((lg_cmp_eq (lN 0) (lN 0)).mpr rfl) h21
set_option maxHeartbeats 4000000 in
set_option maxRecDepth 100000 in
theorem l_X7_cd (G : zG) (d : Nat) (Q : zQ) {A B : Int64} {mi : zFi} {ml : zFl} {mr : zFr} : ∀ (j x y i : Nat) (v9 v10 : Value), y < 2 ^ j → i + 2 * j ≤ 1000 → x < 2 ^ 62 → y < 2 ^ 62 → Q (some (.long (lN (Nat.gcd x y)))) mi ml mr → zE G (zRm d 238 238) (zQm G 238 238 Q) yX7_commonDivisor.cls yX7_commonDivisor.name cX7_commonDivisor 11 (some .long) 238 9 [.long A, zx, .long B, zx, .long (lN x), zx, .long (lN y), zx, .int (nI i), v9, v10] [] 238 mi ml mr := by
  intro j
  induction j with
  | zero =>
    intro x y i v9 v10 hyj hi hx hy hQ
    have e : y = 0 := by omega
    subst e
    rw [Nat.gcd_zero_right] at hQ
    exact x_X7_cd G d Q (by omega) hQ
  | succ j ih =>
    intro x y i v9 v10 hyj hi hx hy hQ
    rcases Nat.eq_zero_or_pos y with e | h0
    · subst e
      rw [Nat.gcd_zero_right] at hQ
      exact x_X7_cd G d Q (by omega) hQ
    · have hr := Nat.mod_lt x h0
      have hg1 : Nat.gcd x y = Nat.gcd y (x % y) := by rw [Nat.gcd_comm x y, Nat.gcd_rec y x, Nat.gcd_comm]
      rw [hg1] at hQ
      refine s_X7_cd G d Q hx hy h0 (by omega) (fun w1 w2 => ?_)
      rcases Nat.eq_zero_or_pos (x % y) with e2 | h2
      · rw [e2] at hQ ⊢
        rw [Nat.gcd_zero_right] at hQ
        exact x_X7_cd G d Q (by omega) hQ
      · have hr2 := Nat.mod_lt y h2
        have hg2 : Nat.gcd y (x % y) = Nat.gcd (x % y) (y % (x % y)) := by rw [Nat.gcd_comm y, Nat.gcd_rec (x % y) y, Nat.gcd_comm]
        rw [hg2] at hQ
        have hle := Nat.mod_le y (x % y)
        have hhalf : 2 * (y % (x % y)) < y := by
          have h9 := Nat.mod_add_div y (x % y)
          have h8 : 1 ≤ y / (x % y) := (Nat.one_le_div_iff h2).mpr (Nat.le_of_lt hr)
          have h7 : (x % y) * 1 ≤ (x % y) * (y / (x % y)) := Nat.mul_le_mul_left _ h8
          omega
        refine s_X7_cd G d Q hy (by omega) h2 (by omega) (fun w3 w4 => ?_)
        exact ih (x % y) (y % (x % y)) (i + 1 + 1) w3 w4 (by rw [Nat.pow_succ] at hyj; omega) (by omega) (by omega) (by omega) hQ
set_option maxHeartbeats 4000000 in
set_option maxRecDepth 100000 in
theorem k_X7_commonDivisor (G : zG) {a b : Nat} {mi : zFi} {ml : zFl} {mr : zFr} (ha : a < 2 ^ 62) (hb : b < 2 ^ 62) : zMet G 0 yX7_commonDivisor cX7_commonDivisor 11 (some .long) [.long (lN a), .long (lN b)] 238 mi ml mr 238 (zPq (some (.long (lN (Nat.gcd a b)))) mi ml mr) := by
  refine z_intro ([.long (lN a), zx, .long (lN b), zx, zx, zx, zx, zx, zx, zx, zx]) (by decide) rfl (Nat.le_of_ble_eq_true rfl) ?_
  refine e_lload_n 1 dX7_commonDivisor_0 rfl rfl ?_
  refine e_lstore 3 dX7_commonDivisor_1 rfl (by decide) (zst2_4 rfl) ?_
  refine e_lload_n 4 dX7_commonDivisor_3 rfl rfl ?_
  refine e_lstore 6 dX7_commonDivisor_4 rfl (by decide) (zst2_6 rfl) ?_
  refine e_iconst 7 hic_0 dX7_commonDivisor_6 rfl ?_
  refine e_istore 9 dX7_commonDivisor_7 rfl (by decide) (zst1_8 rfl) ?_
  exact l_X7_cd G _ _ 62 a b 0 _ _ hb (by decide) ha hb ⟨rfl, rfl, rfl, rfl⟩

/-- a fraction in least terms: its upper (k = 0) or lower number; u is a or -a -/
def sFrac (u : Int64) (a b k : Nat) : Int64 := if k = 0 then u / lN (Nat.gcd a b) else lN b / lN (Nat.gcd a b)
def zAbs (u : Int64) (a : Nat) : Prop := u = lN a ∨ u = -lN a
theorem zAbs_abs {u : Int64} {a : Nat} (ha : a < 2 ^ 62) (h : zAbs u a) : (if 0 < u then u else -u) = lN a := by
  have key : (lN a).toInt = (a : Int) := by
    unfold lN
    rw [Int64.toInt_ofNat']
    have e9 : (Int64.size : Int) = 18446744073709551616 := rfl
    apply Int.bmod_eq_of_le <;> omega
  have kneg : (-(lN a)).toInt = -(a : Int) := by
    rw [Int64.toInt_neg, key]
    apply Int.bmod_eq_of_le <;> omega
  rcases Nat.eq_zero_or_pos a with e | e
  · subst e
    rcases h with h | h <;> rw [h] <;> decide
  · rcases h with h | h
    · rw [h, if_pos]
      rw [Int64.lt_iff_toInt_lt, key]
      show (0 : Int) < _
      omega
    · rw [h, if_neg, Int64.neg_neg]
      rw [Int64.lt_iff_toInt_lt, kneg]
      show ¬ (0 : Int) < _
      omega
set_option maxHeartbeats 4000000 in
set_option maxRecDepth 100000 in
theorem k_X7_leastTerms (G : zG) {u : Int64} {a b k : Nat} {mi : zFi} {ml : zFl} {mr : zFr} (hu : zAbs u a) (ha : a < 2 ^ 62) (hb : b < 2 ^ 62) (hb0 : 0 < b) (hk : k ≤ 1) : zMet G 1 yX7_leastTerms cX7_leastTerms 7 (some .long) [.long u, .long (lN b), .int (nI k)] 238 mi ml mr 238 (zPq (some (.long (sFrac u a b k))) mi ml mr) := by
  refine z_intro ([.long u, zx, .long (lN b), zx, .int (nI k), zx, zx]) (by decide) rfl (Nat.le_of_ble_eq_true rfl) ?_
  refine e_lload_n 1 dX7_leastTerms_0 rfl rfl ?_
  refine e_mabs 4 dX7_leastTerms_1 lmm_X7_303 rfl (Nat.le_of_ble_eq_true rfl) (Nat.le_of_ble_eq_true rfl) (Nat.le_refl _) (Nat.le_refl _) ?_
  rw [zAbs_abs ha hu]
  refine e_lload_n 5 dX7_leastTerms_4 rfl rfl ?_
  refine c_Sql 8 dX7_leastTerms_5 (k_X7_commonDivisor G ha hb) lm_X7_307 zt_yX7_commonDivisor rfl rfl rfl (Nat.le_of_ble_eq_true rfl) (Nat.le_of_ble_eq_true rfl) (Nat.le_of_ble_eq_true rfl) (by exact Nat.le_refl _) (by exact Nat.le_refl _) ?_
  have hg0 : 0 < Nat.gcd a b := Nat.gcd_pos_of_pos_right _ hb0
  have hgb : Nat.gcd a b ≤ b := Nat.gcd_le_right _ hb0
  refine e_lstore 10 dX7_leastTerms_8 rfl (by decide) (zst2_5 rfl) ?_
  refine e_lload 12 dX7_leastTerms_10 rfl rfl ?_
  refine e_lconst 13 (v := lN 0) rfl dX7_leastTerms_12 rfl ?_
  refine e_lcmp 14 dX7_leastTerms_13 rfl ?_
  refine e_if_gt 21 17 dX7_leastTerms_14 (by decide) rfl (fun h14 => ?_) (fun h14 => ?_)
  · refine e_iload 23 dX7_leastTerms_21 rfl rfl ?_
    refine e_if_neN 30 26 dX7_leastTerms_23 (by decide) rfl (by omega) (fun h23 => ?_) (fun h23 => ?_)
    · refine e_lload_n 31 dX7_leastTerms_30 rfl rfl ?_
      refine e_lload 33 dX7_leastTerms_31 rfl rfl ?_
      refine e_ldiv 34 dX7_leastTerms_33 rfl (lN_ne0 (by omega) hg0) ?_
      refine e_lreturn dX7_leastTerms_34 rfl ?_
      refine ⟨congrArg (fun z => some (Value.long z)) ?_, rfl, rfl, rfl⟩
      unfold sFrac
      first | rw [if_pos h23] | rw [if_neg (by omega)]
    · refine e_lload_n 27 dX7_leastTerms_26 rfl rfl ?_
      refine e_goto 31 dX7_leastTerms_27 (by decide) ?_
      refine e_lload 33 dX7_leastTerms_31 rfl rfl ?_
      refine e_ldiv 34 dX7_leastTerms_33 rfl (lN_ne0 (by omega) hg0) ?_
      refine e_lreturn dX7_leastTerms_34 rfl ?_
      refine ⟨congrArg (fun z => some (Value.long z)) ?_, rfl, rfl, rfl⟩
      unfold sFrac
      first | rw [if_pos h23] | rw [if_neg (by omega)]
  · exact absurd ((lg_cmp_gt _ _).mpr ((lN_lt63 (by decide) (by omega)).1.mpr hg0)) h14

def sOldOk (a b what : Int32) : Prop := vR a 10 69 ∧ vR b 10 69 ∧ zK a ≤ zK b ∧ vR what 0 1
def sOldOk_dec (a b what : Int32) : Decidable (sOldOk a b what) := by unfold sOldOk; exact @instDecidableAnd _ _ (vR_dec _ _ _) (@instDecidableAnd _ _ (vR_dec _ _ _) (@instDecidableAnd _ _ inferInstance (vR_dec _ _ _)))
def sOld (Λ : zLd) (m : zMo) (on nt a b what : Int32) : Int64 := @ite _ (sOldOk a b what) (sOldOk_dec a b what) (if zWs9 Λ m on nt 10 69 = 0 then -2 else sFrac (lN (zWs9 Λ m on nt (zK a) (zK b))) (zWs9 Λ m on nt (zK a) (zK b)) (zWs9 Λ m on nt 10 69) (zK what)) (-1)
set_option maxHeartbeats 4000000 in
set_option maxRecDepth 100000 in
theorem k_X7_old (G : zG) {D E : Nat} {Λ : zLd} {late : Nat} {tr : Int64} {t : zTx} {m : zMo} {im : Nat → Nat × zMo} {l : zLt} {r : zWr} {mi : zFi} {ml : zFl} {mr : zFr} (hr : zRf mr D E) (hX : zX mi ml D Λ late tr t m im l r) (hF : zWf Λ late t m im l r) {on nt a b what : Int32} : zMet G 3 yX7_old cX7_old 8 (some .long) [.ref 0, .int on, .int nt, .int a, .int b, .int what] 238 mi ml mr 238 (zPq (some (.long (sOld Λ m on nt a b what))) mi ml mr) := by
  obtain ⟨hΛ, hlate, htr, ht, hm, him, hl, hw, hn72⟩ := id hX
  obtain ⟨hW, hla30, htw, hmw, himw, hlw, hrw⟩ := id hF
  have hP3 := hW.1.1
  have hW5 := hW.1.2.1
  have hy99 := hmw.1
  have hD9 := hr.Dl
  refine z_intro ([.ref 0, .int on, .int nt, .int a, .int b, .int what, zx, zx]) (by decide) rfl (Nat.le_of_ble_eq_true rfl) ?_
  refine e_iload_n 1 dX7_old_0 rfl rfl ?_
  refine c_Sqi 4 dX7_old_1 (k_X7_isAge G) lm_X7_156 zt_yX7_isAge rfl rfl rfl (Nat.le_of_ble_eq_true rfl) (Nat.le_of_ble_eq_true rfl) (Nat.le_of_ble_eq_true rfl) (by exact Nat.le_refl _) (by exact Nat.le_refl _) ?_
  refine e_if_eq 31 7 dX7_old_4 (by decide) rfl (fun h4 => ?_) (fun h4 => ?_)
  · have h4 := zB_0 h4
    refine e_ldc2_w 34 lc_X7_207 dX7_old_31 rfl ?_
    refine e_lreturn dX7_old_34 rfl ?_
    first | rw [← ea, ← eb] | skip
    refine ⟨congrArg (fun z => some (Value.long z)) (iteN (fun q => ?_)).symm, rfl, rfl, rfl⟩
    first | exact h4 q.1 | exact h12 q.2.1 | exact absurd q.2.2.1 (by omega) | exact h28 q.2.2.2
  · have h4 := zB_1 h4
    obtain ⟨ea, ha9⟩ := h4.nat
    refine e_iload 9 dX7_old_7 rfl rfl ?_
    refine c_Sqi 12 dX7_old_9 (k_X7_isAge G) lm_X7_156 zt_yX7_isAge rfl rfl rfl (Nat.le_of_ble_eq_true rfl) (Nat.le_of_ble_eq_true rfl) (Nat.le_of_ble_eq_true rfl) (by exact Nat.le_refl _) (by exact Nat.le_refl _) ?_
    refine e_if_eq 31 15 dX7_old_12 (by decide) rfl (fun h12 => ?_) (fun h12 => ?_)
    · have h12 := zB_0 h12
      refine e_ldc2_w 34 lc_X7_207 dX7_old_31 rfl ?_
      refine e_lreturn dX7_old_34 rfl ?_
      first | rw [← ea, ← eb] | skip
      refine ⟨congrArg (fun z => some (Value.long z)) (iteN (fun q => ?_)).symm, rfl, rfl, rfl⟩
      first | exact h4 q.1 | exact h12 q.2.1 | exact absurd q.2.2.1 (by omega) | exact h28 q.2.2.2
    · have h12 := zB_1 h12
      obtain ⟨eb, hb9⟩ := h12.nat
      rw [ea, eb]
      refine e_iload_n 16 dX7_old_15 rfl rfl ?_
      refine e_iload 18 dX7_old_16 rfl rfl ?_
      refine e_icmp_gtN 31 21 dX7_old_18 (by decide) rfl (by omega) (by omega) (fun h18 => ?_) (fun h18 => ?_)
      · refine e_ldc2_w 34 lc_X7_207 dX7_old_31 rfl ?_
        refine e_lreturn dX7_old_34 rfl ?_
        first | rw [← ea, ← eb] | skip
        refine ⟨congrArg (fun z => some (Value.long z)) (iteN (fun q => ?_)).symm, rfl, rfl, rfl⟩
        first | exact h4 q.1 | exact h12 q.2.1 | exact absurd q.2.2.1 (by omega) | exact h28 q.2.2.2
      · refine e_iload 23 dX7_old_21 rfl rfl ?_
        refine e_iconst 24 hic_0 dX7_old_23 rfl ?_
        refine e_iconst 25 hic_1 dX7_old_24 rfl ?_
        refine c_Sqi 28 dX7_old_25 (k_X7_btw G (by decide) (by decide)) lm_X7_80 zt_yX7_between rfl rfl rfl (Nat.le_of_ble_eq_true rfl) (Nat.le_of_ble_eq_true rfl) (Nat.le_of_ble_eq_true rfl) (by exact Nat.le_refl _) (by exact Nat.le_refl _) ?_
        refine e_if_ne 35 31 dX7_old_28 (by decide) rfl (fun h28 => ?_) (fun h28 => ?_)
        · have h28 := zB_1 h28
          obtain ⟨ew, hw9⟩ := h28.nat
          have hall := zWs_le9 (on := on) (nt := nt) hW hmw (a := 10) (b := 69) (by decide) (by decide)
          have hpar := zWs_le9 (on := on) (nt := nt) hW hmw (a := zK a) (b := zK b) (by omega) (by omega)
          refine e_aload_n 36 dX7_old_35 rfl rfl ?_
          refine e_iload_n 37 dX7_old_36 rfl rfl ?_
          refine e_iload_n 38 dX7_old_37 rfl rfl ?_
          refine e_bipush 40 hbi_10 dX7_old_38 rfl ?_
          refine e_bipush 42 hbi_69 dX7_old_40 rfl ?_
          refine c_Vql 45 (ci := 7) dX7_old_42 (k_X7_weights G hr hX hF (by decide) (by decide) (by decide)) lm_X7_209 zi_yX7_weights zs_yX7_weights rfl (by first | rfl | assumption) (by first | decide | omega) rfl rfl rfl (Nat.le_of_ble_eq_true rfl) (Nat.le_of_ble_eq_true rfl) (Nat.le_of_ble_eq_true rfl) (by exact Nat.le_refl _) (by exact Nat.le_refl _) ?_
          refine e_lstore 47 dX7_old_45 rfl (by decide) (zst2_6 rfl) ?_
          refine e_lload 49 dX7_old_47 rfl rfl ?_
          refine e_lconst 50 (v := lN 0) rfl dX7_old_49 rfl ?_
          refine e_lcmp 51 dX7_old_50 rfl ?_
          refine e_if_ne 58 54 dX7_old_51 (by decide) rfl (fun h51 => ?_) (fun h51 => ?_)
          · have h51 : ¬ zWs9 Λ m on nt 10 69 = 0 := fun z => h51 ((lg_cmp_eq _ _).mpr (by rw [z]))
            refine e_aload_n 59 dX7_old_58 rfl rfl ?_
            refine e_iload_n 60 dX7_old_59 rfl rfl ?_
            refine e_iload_n 61 dX7_old_60 rfl rfl ?_
            refine e_iload_n 62 dX7_old_61 rfl rfl ?_
            refine e_iload 64 dX7_old_62 rfl rfl ?_
            refine c_Vql 67 (ci := 7) dX7_old_64 (k_X7_weights G hr hX hF (by omega) (by omega) (by omega)) lm_X7_209 zi_yX7_weights zs_yX7_weights rfl (by first | rfl | assumption) (by first | decide | omega) rfl rfl rfl (Nat.le_of_ble_eq_true rfl) (Nat.le_of_ble_eq_true rfl) (Nat.le_of_ble_eq_true rfl) (by exact Nat.le_refl _) (by exact Nat.le_refl _) ?_
            refine e_lload 69 dX7_old_67 rfl rfl ?_
            refine e_iload 71 dX7_old_69 rfl rfl ?_
            rw [ew]
            refine c_Sql 74 dX7_old_71 (k_X7_leastTerms G (Or.inl rfl) (by omega) (by omega) (by omega) (by omega)) lm_X7_215 zt_yX7_leastTerms rfl rfl rfl (Nat.le_of_ble_eq_true rfl) (Nat.le_of_ble_eq_true rfl) (Nat.le_of_ble_eq_true rfl) (by exact Nat.le_refl _) (by exact Nat.le_refl _) ?_
            refine e_lreturn dX7_old_74 rfl ?_
            rw [← ew, ← ea, ← eb]
            exact ⟨congrArg (fun z => some (Value.long z)) ((iteP (show sOldOk a b what from ⟨h4, h12, by omega, h28⟩)).trans (if_neg h51)).symm, rfl, rfl, rfl⟩
          · have h51 : zWs9 Λ m on nt 10 69 = 0 := (lN_lt63 (by omega) (by decide)).2.mp ((lg_cmp_eq _ _).mp h51)
            refine e_ldc2_w 57 lc_X7_213 dX7_old_54 rfl ?_
            refine e_lreturn dX7_old_57 rfl ?_
            rw [← ea, ← eb]
            exact ⟨congrArg (fun z => some (Value.long z)) ((iteP (show sOldOk a b what from ⟨h4, h12, by omega, h28⟩)).trans (if_pos h51)).symm, rfl, rfl, rfl⟩
        · have h28 := zB_0 h28
          refine e_ldc2_w 34 lc_X7_207 dX7_old_31 rfl ?_
          refine e_lreturn dX7_old_34 rfl ?_
          first | rw [← ea, ← eb] | skip
          refine ⟨congrArg (fun z => some (Value.long z)) (iteN (fun q => ?_)).symm, rfl, rfl, rfl⟩
          first | exact h4 q.1 | exact h12 q.2.1 | exact absurd q.2.2.1 (by omega) | exact h28 q.2.2.2

