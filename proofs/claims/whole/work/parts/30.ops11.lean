theorem nI_and (a b : Nat) : nI a &&& nI b = nI (a % 2 ^ 32 &&& b % 2 ^ 32) := by
  apply Int32.toBitVec_inj.mp
  apply BitVec.eq_of_toNat_eq
  rw [Int32.toBitVec_and, BitVec.toNat_and]
  show BitVec.toNat (BitVec.ofNat 32 a) &&& BitVec.toNat (BitVec.ofNat 32 b) = BitVec.toNat (BitVec.ofNat 32 _)
  rw [BitVec.toNat_ofNat, BitVec.toNat_ofNat, BitVec.toNat_ofNat]
  exact (Nat.mod_eq_of_lt (Nat.and_lt_two_pow _ (Nat.mod_lt _ (by decide)))).symm
/-- the bits of a set that a land's words have -/
def zMask (s : Int32) (W : Nat) : Nat := s.toBitVec.toNat % 2 ^ W
theorem zMask_lt (s : Int32) (W : Nat) : zMask s W < 2 ^ W := Nat.mod_lt _ (Nat.two_pow_pos W)
theorem nI_bits (s : Int32) : nI s.toBitVec.toNat = s := by
  apply Int32.toBitVec_inj.mp
  apply BitVec.eq_of_toNat_eq
  show BitVec.toNat (BitVec.ofNat 32 _) = _
  rw [BitVec.toNat_ofNat]
  exact Nat.mod_eq_of_lt s.toBitVec.isLt
theorem zMask_ok (s : Int32) {W : Nat} (h : W ≤ 5) : s &&& ((nI 1 <<< (nI W &&& 31)) - nI 1) = nI (zMask s W) := by
  have e : (nI 1 <<< (nI W &&& 31)) - nI 1 = nI (2 ^ W - 1) := by
    have h6 : W = 0 ∨ W = 1 ∨ W = 2 ∨ W = 3 ∨ W = 4 ∨ W = 5 := by omega
    rcases h6 with q | q | q | q | q | q <;> subst q <;> decide
  rw [e]
  have e2 := nI_bits s
  rw [← e2, nI_and]
  have h1 : s.toBitVec.toNat % 2 ^ 32 = s.toBitVec.toNat := Nat.mod_eq_of_lt s.toBitVec.isLt
  have h2 : (2 ^ W - 1) % 2 ^ 32 = 2 ^ W - 1 := Nat.mod_eq_of_lt (by have := Nat.pow_le_pow_right (n := 2) (by decide) h; omega)
  rw [h1, h2, Nat.and_two_pow_sub_one_eq_mod, e2]
  rfl
/-- how many of the bits 0 .. W - 1 are set -/
def zCnt (b : Int32) (W : Nat) : Nat := zsum (fun w => @ite _ (zBit b w) (zBit_dec b w) 1 0) 0 W
def zSh9 (x : Int32) (k : Nat) : Int32 := (x.toUInt32 >>> ((nI k).toUInt32 &&& Int32.toUInt32 31)).toInt32
def zB1 (x : Int32) : Int32 := x - (zSh9 x 1 &&& nI 1431655765)
def zB2 (x : Int32) : Int32 := (x &&& nI 858993459) + (zSh9 x 2 &&& nI 858993459)
def zB3 (x : Int32) : Int32 := (x + zSh9 x 4) &&& nI 252645135
def zB4 (x : Int32) : Int32 := x + zSh9 x 8
def zB5 (x : Int32) : Int32 := x + zSh9 x 16
def zBC (x : Int32) : Int32 := zB5 (zB4 (zB3 (zB2 (zB1 x)))) &&& nI 63
theorem zBC_5 : ∀ W, W < 6 → ∀ k, k < 2 ^ W → zBC (nI k) = nI (zCnt (nI k) W) := by decide +kernel
theorem zBit_z : ∀ w, w < 5 → ¬ zBit (nI 0) w := by
  intro w h
  have h5 : w = 0 ∨ w = 1 ∨ w = 2 ∨ w = 3 ∨ w = 4 := by omega
  rcases h5 with q | q | q | q | q <;> subst q <;> unfold zBit <;> decide
set_option maxHeartbeats 4000000 in
set_option maxRecDepth 100000 in
theorem k_J6_bitCount_0f7a4 (G : zG) {x : Int32} {mi : zFi} {ml : zFl} {mr : zFr} : zMet G 0 yJ6_bitCount_0f7a4 cJ6_bitCount_0f7a4 1 (some .int) [.int x] 238 mi ml mr 238 (zPq (some (.int (zBC x))) mi ml mr) := by
  refine z_intro ([.int x]) (by decide) rfl (Nat.le_of_ble_eq_true rfl) ?_
  refine e_iload_n 1 dJ6_bitCount_0f7a4_0 rfl rfl ?_
  refine e_iload_n 2 dJ6_bitCount_0f7a4_1 rfl rfl ?_
  refine e_iconst 3 hic_1 dJ6_bitCount_0f7a4_2 rfl ?_
  refine e_iushr 4 dJ6_bitCount_0f7a4_3 rfl ?_
  refine e_ldc_w 7 lc_J6_265 dJ6_bitCount_0f7a4_4 rfl ?_
  refine e_iand 8 dJ6_bitCount_0f7a4_7 rfl ?_
  refine e_isub 9 dJ6_bitCount_0f7a4_8 rfl ?_
  refine e_istore_n 10 dJ6_bitCount_0f7a4_9 rfl (by decide) (zst1_0) ?_
  refine e_iload_n 11 dJ6_bitCount_0f7a4_10 rfl rfl ?_
  refine e_ldc_w 14 lc_J6_266 dJ6_bitCount_0f7a4_11 rfl ?_
  refine e_iand 15 dJ6_bitCount_0f7a4_14 rfl ?_
  refine e_iload_n 16 dJ6_bitCount_0f7a4_15 rfl rfl ?_
  refine e_iconst 17 hic_2 dJ6_bitCount_0f7a4_16 rfl ?_
  refine e_iushr 18 dJ6_bitCount_0f7a4_17 rfl ?_
  refine e_ldc_w 21 lc_J6_266 dJ6_bitCount_0f7a4_18 rfl ?_
  refine e_iand 22 dJ6_bitCount_0f7a4_21 rfl ?_
  refine e_iadd 23 dJ6_bitCount_0f7a4_22 rfl ?_
  refine e_istore_n 24 dJ6_bitCount_0f7a4_23 rfl (by decide) (zst1_0) ?_
  refine e_iload_n 25 dJ6_bitCount_0f7a4_24 rfl rfl ?_
  refine e_iload_n 26 dJ6_bitCount_0f7a4_25 rfl rfl ?_
  refine e_iconst 27 hic_4 dJ6_bitCount_0f7a4_26 rfl ?_
  refine e_iushr 28 dJ6_bitCount_0f7a4_27 rfl ?_
  refine e_iadd 29 dJ6_bitCount_0f7a4_28 rfl ?_
  refine e_ldc_w 32 lc_J6_267 dJ6_bitCount_0f7a4_29 rfl ?_
  refine e_iand 33 dJ6_bitCount_0f7a4_32 rfl ?_
  refine e_istore_n 34 dJ6_bitCount_0f7a4_33 rfl (by decide) (zst1_0) ?_
  refine e_iload_n 35 dJ6_bitCount_0f7a4_34 rfl rfl ?_
  refine e_iload_n 36 dJ6_bitCount_0f7a4_35 rfl rfl ?_
  refine e_bipush 38 hbi_8 dJ6_bitCount_0f7a4_36 rfl ?_
  refine e_iushr 39 dJ6_bitCount_0f7a4_38 rfl ?_
  refine e_iadd 40 dJ6_bitCount_0f7a4_39 rfl ?_
  refine e_istore_n 41 dJ6_bitCount_0f7a4_40 rfl (by decide) (zst1_0) ?_
  refine e_iload_n 42 dJ6_bitCount_0f7a4_41 rfl rfl ?_
  refine e_iload_n 43 dJ6_bitCount_0f7a4_42 rfl rfl ?_
  refine e_bipush 45 hbi_16 dJ6_bitCount_0f7a4_43 rfl ?_
  refine e_iushr 46 dJ6_bitCount_0f7a4_45 rfl ?_
  refine e_iadd 47 dJ6_bitCount_0f7a4_46 rfl ?_
  refine e_istore_n 48 dJ6_bitCount_0f7a4_47 rfl (by decide) (zst1_0) ?_
  refine e_iload_n 49 dJ6_bitCount_0f7a4_48 rfl rfl ?_
  refine e_bipush 51 hbi_63 dJ6_bitCount_0f7a4_49 rfl ?_
  refine e_iand 52 dJ6_bitCount_0f7a4_51 rfl ?_
  refine e_ireturn .int dJ6_bitCount_0f7a4_52 rfl rfl ?_
  exact ⟨rfl, rfl, rfl, rfl⟩

def sLetOk (Λ : zLd) (m : zMo) (y a p : Int32) : Prop := vR y 0 m.1 ∧ vR a 10 69 ∧ vN p (Λ 0 0)
def sLetOk_dec (Λ : zLd) (m : zMo) (y a p : Int32) : Decidable (sLetOk Λ m y a p) := by unfold sLetOk; exact @instDecidableAnd _ _ (vR_dec _ _ _) (@instDecidableAnd _ _ (vR_dec _ _ _) (vN_dec _ _))
def sLetter (Λ : zLd) (m : zMo) (s y a p : Int32) : Int32 := @ite _ (sLetOk Λ m y a p) (sLetOk_dec Λ m y a p) (nI (zCnt (nI (zMask s (Λ 0 1))) (Λ 0 1))) (-1)
def sLetterL (Λ : zLd) (m : zMo) (l : zLt) (s y a p : Int32) : zLt := @ite _ (sLetOk Λ m y a p) (sLetOk_dec Λ m y a p) (1, zMask s (Λ 0 1), zK y, zK a, zK p) l
theorem sLetter_F {Λ : zLd} {late : Nat} {t : zTx} {m : zMo} {im : Nat → Nat × zMo} {l : zLt} {r : zWr} (hF : zWf Λ late t m im l r) {s y a p : Int32} : zWf Λ late t m im (sLetterL Λ m l s y a p) r := by
  obtain ⟨hW, hla30, htw, hmw, himw, hlw, hrw⟩ := hF
  refine ⟨hW, hla30, htw, hmw, himw, ?_, hrw⟩
  unfold sLetterL
  by_cases q : sLetOk Λ m y a p
  · rw [iteP q]
    refine ⟨Nat.le_refl 1, fun _ => ⟨zMask_lt _ _, ?_, q.2.1.nat.2.1, q.2.1.nat.2.2, q.2.2.nat.2⟩⟩
    have h1 := q.1.nat.2.2
    have h2 := hmw.1
    show zK y ≤ 99
    omega
  · rw [iteN q]; exact hlw
/-- cells that recall nothing but the letter's shares and the tried life -/
def zRec (mi a : zFi) : Prop := ∀ q, q ≠ 68 ∧ (q < 79 ∨ 88 ≤ q) → a q = mi q
theorem zX.rec {mi a : zFi} {ml : zFl} {D : Nat} {Λ : zLd} {late : Nat} {tr : Int64} {t : zTx} {m : zMo} {im : Nat → Nat × zMo} {l : zLt} {r : zWr} (hW : zLandW Λ) (h : zX mi ml D Λ late tr t m im l r) (hD : 88 ≤ D) (e : zRec mi a) : zX a ml D Λ late tr t m im l r := by
  obtain ⟨h1, h2, h3, h4, h5, h6, h7, h8, h9⟩ := h
  exact ⟨h1.congr (fun j hj => e _ (by omega)), by rw [e 0 (by decide)]; exact h2, h3, h4.c (e 1 (by decide)) (e 2 (by decide)), h5.c hW (fun q g1 g2 => e q (by omega)), h6.c hW (e 66 (by decide)) (fun q g1 g2 => e q (by omega)), h7.c (e 67 (by decide)), h8.c (e 69 (by decide)) (e 70 (by decide)) (e 71 (by decide)), by rw [e 72 (by decide)]; exact h9⟩
def zLetS (l : zLt) (m : zMo) : Prop := l.1 = 1 ∧ l.2.2.1 ≤ m.1
def zLetS_dec (l : zLt) (m : zMo) : Decidable (zLetS l m) := by unfold zLetS; exact inferInstance
/-- what the letter's writer had of a word -/
def zWrote (Λ : zLd) (m : zMo) (l : zLt) (w : Nat) : Nat := (zLive Λ m.2.2.1 (Λ 0 3) w l.2.2.1).1 l.2.2.2.2 l.2.2.2.1
theorem zWrote_le {Λ : zLd} {late : Nat} {t : zTx} {m : zMo} {im : Nat → Nat × zMo} {l : zLt} {r : zWr} (hF : zWf Λ late t m im l r) (h1 : l.1 = 1) (w : Nat) : zWrote Λ m l w ≤ 1000 := by
  have h9 := hF.2.2.2.2.2.1.2 h1
  exact (zLive_W hF.1 hF.2.2.2.1.2.1 hF.1.1.2.2.2.1 l.2.2.1).1 _ h9.2.2.2.2 _ h9.2.2.1 h9.2.2.2.1
set_option maxHeartbeats 4000000 in
set_option maxRecDepth 100000 in
theorem k_X7_letter (G : zG) {D E : Nat} {Λ : zLd} {late : Nat} {tr : Int64} {t : zTx} {m : zMo} {im : Nat → Nat × zMo} {l : zLt} {r : zWr} {mi : zFi} {ml : zFl} {mr : zFr} (hr : zRf mr D E) (hX : zX mi ml D Λ late tr t m im l r) (hF : zWf Λ late t m im l r) {s y a p : Int32} : zMet G 2 yX7_letter cX7_letter 5 (some .int) [.ref 0, .int s, .int y, .int a, .int p] 238 mi ml mr 238 (zPi fun x u b c => x = sLetter Λ m s y a p ∧ zX u b D Λ late tr t m im (sLetterL Λ m l s y a p) r ∧ (∀ q, 224 ≤ q → u q = mi q) ∧ b = ml ∧ c = mr) := by
  obtain ⟨hΛ, hlate, htr, ht, hm, him, hl, hw, hn72⟩ := id hX
  obtain ⟨hW, hla30, htw, hmw, himw, hlw, hrw⟩ := id hF
  have hP3 := hW.1.1
  have hW5 := hW.1.2.1
  have hy99 := hmw.1
  have hD9 := hr.Dl
  refine z_intro ([.ref 0, .int s, .int y, .int a, .int p]) (by decide) rfl (Nat.le_of_ble_eq_true rfl) ?_
  refine e_iload_n 1 dX7_letter_0 rfl rfl ?_
  refine e_iconst 2 hic_0 dX7_letter_1 rfl ?_
  refine e_aload_n 3 dX7_letter_2 rfl rfl ?_
  refine e_getr 6 dX7_letter_3 lf_X7_19 rfl rfl rfl (by decide) hr.now ?_
  refine e_geti 9 dX7_letter_6 lf_X7_145 rfl rfl rfl (by decide) hm.1 ?_
  refine c_Sqi 12 dX7_letter_9 (k_X7_btw G (by decide) (by omega)) lm_X7_80 zt_yX7_between rfl rfl rfl (Nat.le_of_ble_eq_true rfl) (Nat.le_of_ble_eq_true rfl) (Nat.le_of_ble_eq_true rfl) (by exact Nat.le_refl _) (by exact Nat.le_refl _) ?_
  refine e_if_eq 31 15 dX7_letter_12 (by decide) rfl (fun h12 => ?_) (fun h12 => ?_)
  · have h12 := zB_0 h12
    refine e_iconst 32 hic_m1 dX7_letter_31 rfl ?_
    refine e_ireturn .int dX7_letter_32 rfl rfl ?_
    have hno : ¬ sLetOk Λ m y a p := fun q => by first | exact h12 q.1 | exact h19 q.2.1 | exact h28 q.2.2
    have e1 : sLetter Λ m s y a p = -1 := iteN hno
    have e2 : sLetterL Λ m l s y a p = l := iteN hno
    rw [e1, e2]
    exact ⟨_, rfl, rfl, hX, fun _ _ => rfl, rfl, rfl⟩
  · have h12 := zB_1 h12
    obtain ⟨ey, hy9⟩ := h12.nat
    refine e_iload_n 16 dX7_letter_15 rfl rfl ?_
    refine c_Sqi 19 dX7_letter_16 (k_X7_isAge G) lm_X7_156 zt_yX7_isAge rfl rfl rfl (Nat.le_of_ble_eq_true rfl) (Nat.le_of_ble_eq_true rfl) (Nat.le_of_ble_eq_true rfl) (by exact Nat.le_refl _) (by exact Nat.le_refl _) ?_
    refine e_if_eq 31 22 dX7_letter_19 (by decide) rfl (fun h19 => ?_) (fun h19 => ?_)
    · have h19 := zB_0 h19
      refine e_iconst 32 hic_m1 dX7_letter_31 rfl ?_
      refine e_ireturn .int dX7_letter_32 rfl rfl ?_
      have hno : ¬ sLetOk Λ m y a p := fun q => by first | exact h12 q.1 | exact h19 q.2.1 | exact h28 q.2.2
      have e1 : sLetter Λ m s y a p = -1 := iteN hno
      have e2 : sLetterL Λ m l s y a p = l := iteN hno
      rw [e1, e2]
      exact ⟨_, rfl, rfl, hX, fun _ _ => rfl, rfl, rfl⟩
    · have h19 := zB_1 h19
      obtain ⟨ea, ha9⟩ := h19.nat
      refine e_aload_n 23 dX7_letter_22 rfl rfl ?_
      refine e_iload 25 dX7_letter_23 rfl rfl ?_
      refine c_Vqi 28 (ci := 7) dX7_letter_25 (k_X7_isPlace G hr hΛ hW) lm_X7_118 zi_yX7_isPlace zs_yX7_isPlace rfl (by first | rfl | assumption) (by first | decide | omega) rfl rfl rfl (Nat.le_of_ble_eq_true rfl) (Nat.le_of_ble_eq_true rfl) (Nat.le_of_ble_eq_true rfl) (by exact Nat.le_refl _) (by exact Nat.le_refl _) ?_
      refine e_if_ne 33 31 dX7_letter_28 (by decide) rfl (fun h28 => ?_) (fun h28 => ?_)
      · have h28 := zB_1 h28
        obtain ⟨ep, hp9⟩ := h28.nat
        refine e_aload_n 34 dX7_letter_33 rfl rfl ?_
        refine e_getr 37 dX7_letter_34 lf_X7_34 rfl rfl rfl (by decide) hr.letter ?_
        refine e_iconst 38 hic_1 dX7_letter_37 rfl ?_
        refine e_puti 41 dX7_letter_38 lf_X7_98 rfl rfl rfl rfl rfl (by decide) ?_
        refine e_aload_n 42 dX7_letter_41 rfl rfl ?_
        refine e_getr 45 dX7_letter_42 lf_X7_34 rfl rfl rfl (by decide) hr.letter ?_
        refine e_iload_n 46 dX7_letter_45 rfl rfl ?_
        refine e_iconst 47 hic_1 dX7_letter_46 rfl ?_
        refine e_aload_n 48 dX7_letter_47 rfl rfl ?_
        refine e_getr 51 dX7_letter_48 lf_X7_62 rfl rfl rfl (by decide) hr.land ?_
        refine e_geti (v := nI (Λ 0 1)) 54 dX7_letter_51 lf_X7_222 rfl rfl hr.dD.k0 hr.dD.l0 (by rw [zp_r _ _ _ (by omega)]; exact hΛ.f1) ?_
        refine e_ishl 55 dX7_letter_54 rfl ?_
        refine e_iconst 56 hic_1 dX7_letter_55 rfl ?_
        refine e_isub 57 dX7_letter_56 rfl ?_
        refine e_iand 58 dX7_letter_57 rfl ?_
        rw [zMask_ok _ hW5]
        refine e_puti 61 dX7_letter_58 lf_X7_225 rfl rfl rfl rfl rfl (by decide) ?_
        refine e_aload_n 62 dX7_letter_61 rfl rfl ?_
        refine e_getr 65 dX7_letter_62 lf_X7_34 rfl rfl rfl (by decide) hr.letter ?_
        refine e_iload_n 66 dX7_letter_65 rfl rfl ?_
        refine e_puti 69 dX7_letter_66 lf_X7_226 rfl rfl rfl rfl rfl (by decide) ?_
        refine e_aload_n 70 dX7_letter_69 rfl rfl ?_
        refine e_getr 73 dX7_letter_70 lf_X7_34 rfl rfl rfl (by decide) hr.letter ?_
        refine e_iload_n 74 dX7_letter_73 rfl rfl ?_
        refine e_puti 77 dX7_letter_74 lf_X7_227 rfl rfl rfl rfl rfl (by decide) ?_
        refine e_aload_n 78 dX7_letter_77 rfl rfl ?_
        refine e_getr 81 dX7_letter_78 lf_X7_34 rfl rfl rfl (by decide) hr.letter ?_
        refine e_iload 83 dX7_letter_81 rfl rfl ?_
        refine e_puti 86 dX7_letter_83 lf_X7_230 rfl rfl rfl rfl rfl (by decide) ?_
        refine e_aload_n 87 dX7_letter_86 rfl rfl ?_
        refine e_getr 90 dX7_letter_87 lf_X7_34 rfl rfl rfl (by decide) hr.letter ?_
        refine e_geti (v := nI (zMask s (Λ 0 1))) 93 dX7_letter_90 lf_X7_225 rfl rfl rfl (by decide) (by rw [zp_k _ _ (by decide), zp_k _ _ (by decide), zp_k _ _ (by decide), zp_s]) ?_
        refine c_Sqi 96 dX7_letter_93 (k_J6_bitCount_0f7a4 G) lm_X7_233 zt_yJ6_bitCount_0f7a4 rfl rfl rfl (Nat.le_of_ble_eq_true rfl) (Nat.le_of_ble_eq_true rfl) (Nat.le_of_ble_eq_true rfl) (by exact Nat.le_refl _) (by exact Nat.le_refl _) ?_
        refine e_ireturn .int dX7_letter_96 rfl rfl ?_
        rw [zBC_5 (Λ 0 1) (by omega) _ (zMask_lt _ _)]
        have hok : sLetOk Λ m y a p := ⟨h12, h19, h28⟩
        have e1 : sLetter Λ m s y a p = nI (zCnt (nI (zMask s (Λ 0 1))) (Λ 0 1)) := iteP hok
        have e2 : sLetterL Λ m l s y a p = (1, zMask s (Λ 0 1), zK y, zK a, zK p) := iteP hok
        rw [e1, e2]
        refine ⟨_, rfl, rfl, ?_, fun q hq => by rw [zp_r _ _ _ (by omega), zp_r _ _ _ (by omega), zp_r _ _ _ (by omega), zp_r _ _ _ (by omega), zp_r _ _ _ (by omega)], rfl, rfl⟩
        have e : ∀ q, q ≠ 67 → (zp (zp (zp (zp (zp mi 67 0 (nI 1)) 67 1 (nI (zMask s (Λ 0 1)))) 67 2 y) 67 3 a) 67 4 p) q = mi q := fun q hq => by rw [zp_r _ _ _ hq, zp_r _ _ _ hq, zp_r _ _ _ hq, zp_r _ _ _ hq, zp_r _ _ _ hq]
        refine ⟨hΛ.congr (fun j hj => e _ (by omega)), by rw [e 0 (by decide)]; exact hlate, htr, ht.c (e 1 (by decide)) (e 2 (by decide)), hm.c hW (fun q g1 g2 => e q (by omega)), him.c hW (e 66 (by decide)) (fun q g1 g2 => e q (by omega)), ⟨?_, fun _ => ⟨?_, ?_, ?_, ?_⟩⟩, hw.c (e 69 (by decide)) (e 70 (by decide)) (e 71 (by decide)), by rw [e 72 (by decide)]; exact hn72⟩
        · rw [zp_k _ _ (by decide), zp_k _ _ (by decide), zp_k _ _ (by decide), zp_k _ _ (by decide), zp_s]
        · rw [zp_k _ _ (by decide), zp_k _ _ (by decide), zp_k _ _ (by decide), zp_s]
        · rw [zp_k _ _ (by decide), zp_k _ _ (by decide), zp_s]; exact ey
        · rw [zp_k _ _ (by decide), zp_s]; exact ea
        · rw [zp_s]; exact ep
      · have h28 := zB_0 h28
        refine e_iconst 32 hic_m1 dX7_letter_31 rfl ?_
        refine e_ireturn .int dX7_letter_32 rfl rfl ?_
        have hno : ¬ sLetOk Λ m y a p := fun q => by first | exact h12 q.1 | exact h19 q.2.1 | exact h28 q.2.2
        have e1 : sLetter Λ m s y a p = -1 := iteN hno
        have e2 : sLetterL Λ m l s y a p = l := iteN hno
        rw [e1, e2]
        exact ⟨_, rfl, rfl, hX, fun _ _ => rfl, rfl, rfl⟩

set_option maxHeartbeats 4000000 in
set_option maxRecDepth 100000 in
theorem k_X7_letterStands (G : zG) {D E : Nat} {Λ : zLd} {late : Nat} {tr : Int64} {t : zTx} {m : zMo} {im : Nat → Nat × zMo} {l : zLt} {r : zWr} {mi : zFi} {ml : zFl} {mr : zFr} (hr : zRf mr D E) (hX : zX mi ml D Λ late tr t m im l r) (hF : zWf Λ late t m im l r) : zMet G 0 yX7_letterStands cX7_letterStands 1 (some .boolean) [.ref 0] 238 mi ml mr 238 (zPq (some (.int (zB (zLetS l m) (zLetS_dec l m)))) mi ml mr) := by
  obtain ⟨hΛ, hlate, htr, ht, hm, him, hl, hw, hn72⟩ := id hX
  obtain ⟨hW, hla30, htw, hmw, himw, hlw, hrw⟩ := id hF
  have hP3 := hW.1.1
  have hW5 := hW.1.2.1
  have hy99 := hmw.1
  have hD9 := hr.Dl
  have hl1 := hlw.1
  refine z_intro ([.ref 0]) (by decide) rfl (Nat.le_of_ble_eq_true rfl) ?_
  refine e_aload_n 1 dX7_letterStands_0 rfl rfl ?_
  refine e_getr 4 dX7_letterStands_1 lf_X7_34 rfl rfl rfl (by decide) hr.letter ?_
  refine e_geti 7 dX7_letterStands_4 lf_X7_98 rfl rfl rfl (by decide) hl.1 ?_
  refine e_if_eqN 31 10 dX7_letterStands_7 (by decide) rfl (by omega) (fun h7 => ?_) (fun h7 => ?_)
  · refine e_iconst 32 hic_0 dX7_letterStands_31 rfl ?_
    refine e_ireturn .boolean dX7_letterStands_32 rfl rfl ?_
    exact ⟨by unfold zB; first | rw [if_neg (fun q => by have g1 := q.1; have g2 := q.2; omega)] | rw [if_pos ⟨h9, by omega⟩], rfl, rfl, rfl⟩
  · have h9 : l.1 = 1 := by omega
    have hl9 := hlw.2 h9
    refine e_aload_n 11 dX7_letterStands_10 rfl rfl ?_
    refine e_getr 14 dX7_letterStands_11 lf_X7_34 rfl rfl rfl (by decide) hr.letter ?_
    refine e_geti 17 dX7_letterStands_14 lf_X7_226 rfl rfl rfl (by decide) (hl.2 h9).2.1 ?_
    refine e_aload_n 18 dX7_letterStands_17 rfl rfl ?_
    refine e_getr 21 dX7_letterStands_18 lf_X7_19 rfl rfl rfl (by decide) hr.now ?_
    refine e_geti 24 dX7_letterStands_21 lf_X7_145 rfl rfl rfl (by decide) hm.1 ?_
    refine e_icmp_gtN 31 27 dX7_letterStands_24 (by decide) rfl (by omega) (by omega) (fun h24 => ?_) (fun h24 => ?_)
    · refine e_iconst 32 hic_0 dX7_letterStands_31 rfl ?_
      refine e_ireturn .boolean dX7_letterStands_32 rfl rfl ?_
      exact ⟨by unfold zB; first | rw [if_neg (fun q => by have g1 := q.1; have g2 := q.2; omega)] | rw [if_pos ⟨h9, by omega⟩], rfl, rfl, rfl⟩
    · refine e_iconst 28 hic_1 dX7_letterStands_27 rfl ?_
      refine e_goto 32 dX7_letterStands_28 (by decide) ?_
      refine e_ireturn .boolean dX7_letterStands_32 rfl rfl ?_
      exact ⟨by unfold zB; first | rw [if_neg (fun q => by have g1 := q.1; have g2 := q.2; omega)] | rw [if_pos ⟨h9, by omega⟩], rfl, rfl, rfl⟩

set_option maxHeartbeats 4000000 in
set_option maxRecDepth 100000 in
theorem l_X7_recall (G : zG) (d : Nat) (Q : zQ) {D E : Nat} {Λ : zLd} {late : Nat} {tr : Int64} {t : zTx} {m : zMo} {im : Nat → Nat × zMo} {l : zLt} {r : zWr} {mi : zFi} {ml : zFl} {mr : zFr} (hr : zRf mr D E) (hX : zX mi ml D Λ late tr t m im l r) (hF : zWf Λ late t m im l r) (h9 : l.1 = 1) : ∀ (k w : Nat) (s : zFi), w + k = Λ 0 1 → zRec mi s → (∀ v, v < w → zBit (nI l.2.1) v → s 68 v = nI (zWrote Λ m l v)) → (∀ a, zRec mi a → (∀ v, v < Λ 0 1 → zBit (nI l.2.1) v → a 68 v = nI (zWrote Λ m l v)) → Q none a ml mr) → zE G (zRm (d + 5) 238 238) (zQm G 238 238 Q) yX7_recallLetter.cls yX7_recallLetter.name cX7_recallLetter 2 none 238 2 [.ref 0, .int (nI w)] [] 238 s ml mr := by
  intro k
  induction k with
  | zero =>
    intro w s h hs hv9 hQ
    obtain ⟨hΛ, hlate, htr, ht, hm, him, hl, hw, hn72⟩ := id hX
    obtain ⟨hW, hla30, htw, hmw, himw, hlw, hrw⟩ := id hF
    have hP3 := hW.1.1
    have hW5 := hW.1.2.1
    have hy99 := hmw.1
    have hD9 := hr.Dl
    obtain ⟨b9, y9, a91, a92, p9⟩ := hlw.2 h9
    have hΛ0 := hΛ
    have hm0 := hm
    have hl0 := hl
    have hΛ : zLandR s D Λ := hΛ0.congr (fun j hj => hs _ (by omega))
    have hm : zMoR s 3 Λ m := hm0.c hW (fun q g1 g2 => hs q (by omega))
    have hl : zXl s l := hl0.c (hs 67 (by omega))
    refine e_iload_n 3 dX7_recallLetter_2 rfl rfl ?_
    refine e_aload_n 4 dX7_recallLetter_3 rfl rfl ?_
    refine e_getr 7 dX7_recallLetter_4 lf_X7_62 rfl rfl rfl (by decide) hr.land ?_
    refine e_geti 10 dX7_recallLetter_7 lf_X7_222 rfl rfl hr.dD.k0 hr.dD.l0 (hΛ.f1) ?_
    refine e_icmp_geN 98 13 dX7_recallLetter_10 (by decide) rfl (by omega) (by omega) (fun h10 => ?_) (fun h10 => ?_)
    · refine e_vreturn dX7_recallLetter_98 rfl ?_
      exact hQ s hs (fun v hv hb => hv9 v (by omega) hb)
    · exact absurd h10 (by omega)
  | succ k ih =>
    intro w s h hs hv9 hQ
    obtain ⟨hΛ, hlate, htr, ht, hm, him, hl, hw, hn72⟩ := id hX
    obtain ⟨hW, hla30, htw, hmw, himw, hlw, hrw⟩ := id hF
    have hP3 := hW.1.1
    have hW5 := hW.1.2.1
    have hy99 := hmw.1
    have hD9 := hr.Dl
    obtain ⟨b9, y9, a91, a92, p9⟩ := hlw.2 h9
    have hΛ0 := hΛ
    have hm0 := hm
    have hl0 := hl
    have hΛ : zLandR s D Λ := hΛ0.congr (fun j hj => hs _ (by omega))
    have hm : zMoR s 3 Λ m := hm0.c hW (fun q g1 g2 => hs q (by omega))
    have hl : zXl s l := hl0.c (hs 67 (by omega))
    refine e_iload_n 3 dX7_recallLetter_2 rfl rfl ?_
    refine e_aload_n 4 dX7_recallLetter_3 rfl rfl ?_
    refine e_getr 7 dX7_recallLetter_4 lf_X7_62 rfl rfl rfl (by decide) hr.land ?_
    refine e_geti 10 dX7_recallLetter_7 lf_X7_222 rfl rfl hr.dD.k0 hr.dD.l0 (hΛ.f1) ?_
    refine e_icmp_geN 98 13 dX7_recallLetter_10 (by decide) rfl (by omega) (by omega) (fun h10 => ?_) (fun h10 => ?_)
    · exact absurd h10 (by omega)
    · refine e_aload_n 14 dX7_recallLetter_13 rfl rfl ?_
      refine e_getr 17 dX7_recallLetter_14 lf_X7_34 rfl rfl rfl (by decide) hr.letter ?_
      refine e_geti 20 dX7_recallLetter_17 lf_X7_225 rfl rfl rfl (by decide) (hl.2 h9).1 ?_
      refine e_iload_n 21 dX7_recallLetter_20 rfl rfl ?_
      refine c_Sqi 24 dX7_recallLetter_21 (k_X7_isIn G) lm_X7_245 zt_yX7_isIn rfl rfl rfl (Nat.le_of_ble_eq_true rfl) (Nat.le_of_ble_eq_true rfl) (Nat.le_of_ble_eq_true rfl) (by exact Nat.le_refl _) (by exact Nat.le_refl _) ?_
      refine e_if_eq 92 27 dX7_recallLetter_24 (by decide) rfl (fun h24 => ?_) (fun h24 => ?_)
      · have h24 := zB_0 h24
        refine e_iinc 95 dX7_recallLetter_92 rfl (by decide) rfl (z_inc hii_1) (zst1_1 rfl) ?_
        refine e_goto 2 dX7_recallLetter_95 (by decide) ?_
        first
          | exact ih (w + 1) _ (by omega) (fun q hq => by rw [zp_r _ _ _ (by omega)]; exact (o1 q (by omega)).trans (hs q hq)) (fun v hv hb => by
          by_cases e : v = w
          · subst e; rw [zp_s]; rfl
          · rw [zp_k _ _ e, o1 68 (by omega)]; exact hv9 v (by omega) hb) hQ
          | exact ih (w + 1) _ (by omega) hs (fun v hv hb => by
          by_cases e : v = w
          · subst e; exact absurd hb h24
          · exact hv9 v (by omega) hb) hQ
      · have h24 := zB_1 h24
        refine e_aload_n 28 dX7_recallLetter_27 rfl rfl ?_
        refine e_getr 31 dX7_recallLetter_28 lf_X7_55 rfl rfl rfl (by decide) hr.trial ?_
        refine e_aload_n 32 dX7_recallLetter_31 rfl rfl ?_
        refine e_getr 35 dX7_recallLetter_32 lf_X7_62 rfl rfl rfl (by decide) hr.land ?_
        refine e_aload_n 36 dX7_recallLetter_35 rfl rfl ?_
        refine e_getr 39 dX7_recallLetter_36 lf_X7_19 rfl rfl rfl (by decide) hr.now ?_
        refine e_getr 42 dX7_recallLetter_39 lf_X7_173 rfl rfl rfl (by decide) hr.m3.r2 ?_
        refine e_iload_n 43 dX7_recallLetter_42 rfl rfl ?_
        refine e_aload_n 44 dX7_recallLetter_43 rfl rfl ?_
        refine e_getr 47 dX7_recallLetter_44 lf_X7_62 rfl rfl rfl (by decide) hr.land ?_
        refine e_geti 50 dX7_recallLetter_47 lf_X7_109 rfl rfl hr.dD.k0 hr.dD.l0 (hΛ.f3) ?_
        refine e_aload_n 51 dX7_recallLetter_50 rfl rfl ?_
        refine e_getr 54 dX7_recallLetter_51 lf_X7_34 rfl rfl rfl (by decide) hr.letter ?_
        refine e_geti 57 dX7_recallLetter_54 lf_X7_226 rfl rfl rfl (by decide) (hl.2 h9).2.1 ?_
        refine c_Vv 60 (ci := 2) dX7_recallLetter_57 (k_X2_replay G hr.l77 hr.dD hr.m3.sg hW hmw.2.1 h10 hW.1.2.2.2.1 y9 (by omega) (by omega) hΛ hm.2.2.1) lm_X7_259 zi_yX2_replay zs_yX2_replay rfl rfl (by decide) rfl rfl rfl (Nat.le_of_ble_eq_true rfl) (Nat.le_of_ble_eq_true rfl) (Nat.le_of_ble_eq_true rfl) (by exact Nat.le_refl _) (by exact Nat.le_refl _) ?_
        rintro a _ _ ⟨o1, r1, rfl, rfl⟩
        refine e_aload_n 61 dX7_recallLetter_60 rfl rfl ?_
        refine e_getr 64 dX7_recallLetter_61 lf_X7_34 rfl rfl rfl (by decide) hr.letter ?_
        refine e_getr 67 dX7_recallLetter_64 lf_X7_249 rfl rfl rfl (by decide) hr.lshares ?_
        refine e_iload_n 68 dX7_recallLetter_67 rfl rfl ?_
        refine e_aload_n 69 dX7_recallLetter_68 rfl rfl ?_
        refine e_getr 72 dX7_recallLetter_69 lf_X7_55 rfl rfl rfl (by decide) hr.trial ?_
        refine e_getr 75 dX7_recallLetter_72 lf_X7_163 rfl rfl hr.l77.k0 hr.l77.l0 hr.l77.r0 ?_
        refine e_aload_n 76 dX7_recallLetter_75 rfl rfl ?_
        refine e_getr 79 dX7_recallLetter_76 lf_X7_34 rfl rfl rfl (by decide) hr.letter ?_
        refine e_geti (v := nI l.2.2.2.2) 82 dX7_recallLetter_79 lf_X7_230 rfl rfl rfl (by decide) (by rw [o1 _ (by omega)]; exact (hl.2 h9).2.2.2) ?_
        refine e_aald 83 dX7_recallLetter_82 rfl hr.l77.k1 hr.l77.l1 rfl (hr.l77.n1 (by omega)) (hr.l77.sh (by omega)) ?_
        refine e_aload_n 84 dX7_recallLetter_83 rfl rfl ?_
        refine e_getr 87 dX7_recallLetter_84 lf_X7_34 rfl rfl rfl (by decide) hr.letter ?_
        refine e_geti (v := nI l.2.2.2.1) 90 dX7_recallLetter_87 lf_X7_227 rfl rfl rfl (by decide) (by rw [o1 _ (by omega)]; exact (hl.2 h9).2.2.1) ?_
        refine e_iald 91 dX7_recallLetter_90 rfl (hr.l77.ks (by omega)) (hr.l77.ls (by omega)) rfl (hr.l77.na (by omega) (by omega)) (r1.1 _ p9 _ a91 a92) ?_
        refine e_iast 92 dX7_recallLetter_91 rfl rfl (by decide) rfl (by show w < 5; omega) ?_
        refine e_iinc 95 dX7_recallLetter_92 rfl (by decide) rfl (z_inc hii_1) (zst1_1 rfl) ?_
        refine e_goto 2 dX7_recallLetter_95 (by decide) ?_
        first
          | exact ih (w + 1) _ (by omega) (fun q hq => by rw [zp_r _ _ _ (by omega)]; exact (o1 q (by omega)).trans (hs q hq)) (fun v hv hb => by
          by_cases e : v = w
          · subst e; rw [zp_s]; rfl
          · rw [zp_k _ _ e, o1 68 (by omega)]; exact hv9 v (by omega) hb) hQ
          | exact ih (w + 1) _ (by omega) hs (fun v hv hb => by
          by_cases e : v = w
          · subst e; exact absurd hb h24
          · exact hv9 v (by omega) hb) hQ
set_option maxHeartbeats 4000000 in
set_option maxRecDepth 100000 in
theorem k_X7_recallLetter (G : zG) {D E : Nat} {Λ : zLd} {late : Nat} {tr : Int64} {t : zTx} {m : zMo} {im : Nat → Nat × zMo} {l : zLt} {r : zWr} {mi : zFi} {ml : zFl} {mr : zFr} (hr : zRf mr D E) (hX : zX mi ml D Λ late tr t m im l r) (hF : zWf Λ late t m im l r) (h9 : l.1 = 1) : zMet G 5 yX7_recallLetter cX7_recallLetter 2 none [.ref 0] 238 mi ml mr 238 (zPv fun u b c => zRec mi u ∧ (∀ v, v < Λ 0 1 → zBit (nI l.2.1) v → u 68 v = nI (zWrote Λ m l v)) ∧ b = ml ∧ c = mr) := by
  refine z_intro ([.ref 0, zx]) (by decide) rfl (Nat.le_of_ble_eq_true rfl) ?_
  refine e_iconst 1 hic_0 dX7_recallLetter_0 rfl ?_
  refine e_istore_n 2 dX7_recallLetter_1 rfl (by decide) (zst1_1 rfl) ?_
  exact l_X7_recall G _ _ hr hX hF h9 (Λ 0 1) 0 mi (by omega) (fun _ _ => rfl) (fun v hv _ => absurd hv (by omega)) (fun a g1 g2 => ⟨rfl, g1, g2, rfl, rfl⟩)

def zCouldSt (b : Int32) (f : Nat → Nat) (w : Nat) (acc : Int32) : Int32 := @ite _ (zBit b w) (zBit_dec b w) (if f w = 0 then acc ||| (nI 1 <<< (nI w &&& 31)) else acc) acc
def zCould (b : Int32) (f : Nat → Nat) (W : Nat) : Int32 := zFo (zCouldSt b f) W 0 (nI 0)
def sCould (Λ : zLd) (m : zMo) (l : zLt) : Int32 := @ite _ (zLetS l m) (zLetS_dec l m) (zCould (nI l.2.1) (zWrote Λ m l) (Λ 0 1)) (-2)
def zLw (Λ : zLd) (m : zMo) (l : zLt) : Nat := zWt (Λ 0 1) (nI l.2.1) (nI 0) (zWrote Λ m l)
set_option maxHeartbeats 4000000 in
set_option maxRecDepth 100000 in
theorem l_X7_could (G : zG) (d : Nat) (Q : zQ) {D E : Nat} {Λ : zLd} {late : Nat} {tr : Int64} {t : zTx} {m : zMo} {im : Nat → Nat × zMo} {l : zLt} {r : zWr} {mi : zFi} {ml : zFl} {mr : zFr} (hr : zRf mr D E) (hX : zX mi ml D Λ late tr t m im l r) (hF : zWf Λ late t m im l r) (h9 : l.1 = 1) (h68 : ∀ v, v < Λ 0 1 → zBit (nI l.2.1) v → mi 68 v = nI (zWrote Λ m l v)) : ∀ (k w : Nat) (acc : Int32), w + k = Λ 0 1 → Q (some (.int (zFo (zCouldSt (nI l.2.1) (zWrote Λ m l)) k w acc))) mi ml mr → zE G (zRm (d + 1) 238 238) (zQm G 238 238 Q) yX7_could.cls yX7_could.name cX7_could 3 (some .int) 238 18 [.ref 0, .int acc, .int (nI w)] [] 238 mi ml mr := by
  intro k
  induction k with
  | zero =>
    intro w acc h hQ
    obtain ⟨hΛ, hlate, htr, ht, hm, him, hl, hw, hn72⟩ := id hX
    obtain ⟨hW, hla30, htw, hmw, himw, hlw, hrw⟩ := id hF
    have hP3 := hW.1.1
    have hW5 := hW.1.2.1
    have hy99 := hmw.1
    have hD9 := hr.Dl
    refine e_iload_n 19 dX7_could_18 rfl rfl ?_
    refine e_aload_n 20 dX7_could_19 rfl rfl ?_
    refine e_getr 23 dX7_could_20 lf_X7_62 rfl rfl rfl (by decide) hr.land ?_
    refine e_geti 26 dX7_could_23 lf_X7_222 rfl rfl hr.dD.k0 hr.dD.l0 (hΛ.f1) ?_
    refine e_icmp_geN 67 29 dX7_could_26 (by decide) rfl (by omega) (by omega) (fun h26 => ?_) (fun h26 => ?_)
    · refine e_iload_n 68 dX7_could_67 rfl rfl ?_
      refine e_ireturn .int dX7_could_68 rfl rfl ?_
      exact hQ
    · exact absurd h26 (by omega)
  | succ k ih =>
    intro w acc h hQ
    obtain ⟨hΛ, hlate, htr, ht, hm, him, hl, hw, hn72⟩ := id hX
    obtain ⟨hW, hla30, htw, hmw, himw, hlw, hrw⟩ := id hF
    have hP3 := hW.1.1
    have hW5 := hW.1.2.1
    have hy99 := hmw.1
    have hD9 := hr.Dl
    refine e_iload_n 19 dX7_could_18 rfl rfl ?_
    refine e_aload_n 20 dX7_could_19 rfl rfl ?_
    refine e_getr 23 dX7_could_20 lf_X7_62 rfl rfl rfl (by decide) hr.land ?_
    refine e_geti 26 dX7_could_23 lf_X7_222 rfl rfl hr.dD.k0 hr.dD.l0 (hΛ.f1) ?_
    refine e_icmp_geN 67 29 dX7_could_26 (by decide) rfl (by omega) (by omega) (fun h26 => ?_) (fun h26 => ?_)
    · exact absurd h26 (by omega)
    · refine e_aload_n 30 dX7_could_29 rfl rfl ?_
      refine e_getr 33 dX7_could_30 lf_X7_34 rfl rfl rfl (by decide) hr.letter ?_
      refine e_geti 36 dX7_could_33 lf_X7_225 rfl rfl rfl (by decide) (hl.2 h9).1 ?_
      refine e_iload_n 37 dX7_could_36 rfl rfl ?_
      refine c_Sqi 40 dX7_could_37 (k_X7_isIn G) lm_X7_245 zt_yX7_isIn rfl rfl rfl (Nat.le_of_ble_eq_true rfl) (Nat.le_of_ble_eq_true rfl) (Nat.le_of_ble_eq_true rfl) (by exact Nat.le_refl _) (by exact Nat.le_refl _) ?_
      refine e_if_eq 61 43 dX7_could_40 (by decide) rfl (fun h40 => ?_) (fun h40 => ?_)
      · have h40 := zB_0 h40
        refine e_iinc 64 dX7_could_61 rfl (by decide) rfl (z_inc hii_1) (zst1_2 rfl) ?_
        refine e_goto 18 dX7_could_64 (by decide) ?_
        rw [zFo_s] at hQ
        unfold zCouldSt at hQ
        first
          | (rw [iteN h40] at hQ; exact ih (w + 1) acc (by omega) hQ)
          | (rw [iteP h40, if_neg (by omega)] at hQ; exact ih (w + 1) acc (by omega) hQ)
          | (rw [iteP h40, if_pos (by omega)] at hQ; exact ih (w + 1) _ (by omega) hQ)
      · have h40 := zB_1 h40
        refine e_aload_n 44 dX7_could_43 rfl rfl ?_
        refine e_getr 47 dX7_could_44 lf_X7_34 rfl rfl rfl (by decide) hr.letter ?_
        refine e_getr 50 dX7_could_47 lf_X7_249 rfl rfl rfl (by decide) hr.lshares ?_
        refine e_iload_n 51 dX7_could_50 rfl rfl ?_
        refine e_iald 52 dX7_could_51 rfl rfl (by decide) rfl (by show w < 5; omega) (h68 w h26 h40) ?_
        refine e_if_neN 61 55 dX7_could_52 (by decide) rfl (by have := zWrote_le hF h9 w; omega) (fun h52 => ?_) (fun h52 => ?_)
        · refine e_iinc 64 dX7_could_61 rfl (by decide) rfl (z_inc hii_1) (zst1_2 rfl) ?_
          refine e_goto 18 dX7_could_64 (by decide) ?_
          rw [zFo_s] at hQ
          unfold zCouldSt at hQ
          first
            | (rw [iteN h40] at hQ; exact ih (w + 1) acc (by omega) hQ)
            | (rw [iteP h40, if_neg (by omega)] at hQ; exact ih (w + 1) acc (by omega) hQ)
            | (rw [iteP h40, if_pos (by omega)] at hQ; exact ih (w + 1) _ (by omega) hQ)
        · refine e_iload_n 56 dX7_could_55 rfl rfl ?_
          refine e_iconst 57 hic_1 dX7_could_56 rfl ?_
          refine e_iload_n 58 dX7_could_57 rfl rfl ?_
          refine e_ishl 59 dX7_could_58 rfl ?_
          refine e_ior 60 dX7_could_59 rfl ?_
          refine e_istore_n 61 dX7_could_60 rfl (by decide) (zst1_1 rfl) ?_
          refine e_iinc 64 dX7_could_61 rfl (by decide) rfl (z_inc hii_1) (zst1_2 rfl) ?_
          refine e_goto 18 dX7_could_64 (by decide) ?_
          rw [zFo_s] at hQ
          unfold zCouldSt at hQ
          first
            | (rw [iteN h40] at hQ; exact ih (w + 1) acc (by omega) hQ)
            | (rw [iteP h40, if_neg (by omega)] at hQ; exact ih (w + 1) acc (by omega) hQ)
            | (rw [iteP h40, if_pos (by omega)] at hQ; exact ih (w + 1) _ (by omega) hQ)
set_option maxHeartbeats 4000000 in
set_option maxRecDepth 100000 in
theorem k_X7_could (G : zG) {D E : Nat} {Λ : zLd} {late : Nat} {tr : Int64} {t : zTx} {m : zMo} {im : Nat → Nat × zMo} {l : zLt} {r : zWr} {mi : zFi} {ml : zFl} {mr : zFr} (hr : zRf mr D E) (hX : zX mi ml D Λ late tr t m im l r) (hF : zWf Λ late t m im l r) : zMet G 6 yX7_could cX7_could 3 (some .int) [.ref 0] 238 mi ml mr 238 (zPi fun x u b c => x = sCould Λ m l ∧ zX u b D Λ late tr t m im l r ∧ (∀ q, 224 ≤ q → u q = mi q) ∧ b = ml ∧ c = mr) := by
  obtain ⟨hΛ, hlate, htr, ht, hm, him, hl, hw, hn72⟩ := id hX
  obtain ⟨hW, hla30, htw, hmw, himw, hlw, hrw⟩ := id hF
  have hP3 := hW.1.1
  have hW5 := hW.1.2.1
  have hy99 := hmw.1
  have hD9 := hr.Dl
  refine z_intro ([.ref 0, zx, zx]) (by decide) rfl (Nat.le_of_ble_eq_true rfl) ?_
  refine e_aload_n 1 dX7_could_0 rfl rfl ?_
  refine c_Vqi 4 (ci := 7) dX7_could_1 (k_X7_letterStands G hr hX hF) lm_X7_238 zi_yX7_letterStands zs_yX7_letterStands rfl rfl (by first | decide | omega) rfl rfl rfl (Nat.le_of_ble_eq_true rfl) (Nat.le_of_ble_eq_true rfl) (Nat.le_of_ble_eq_true rfl) (by exact Nat.le_refl _) (by exact Nat.le_refl _) ?_
  refine e_if_ne 10 7 dX7_could_4 (by decide) rfl (fun h4 => ?_) (fun h4 => ?_)
  · have h4 := zB_1 h4
    have h9 : l.1 = 1 := h4.1
    refine e_aload_n 11 dX7_could_10 rfl rfl ?_
    refine c_Vv 14 (ci := 7) dX7_could_11 (k_X7_recallLetter G hr hX hF h9) lm_X7_242 zi_yX7_recallLetter zs_yX7_recallLetter rfl (by first | rfl | assumption) (by first | decide | omega) rfl rfl rfl (Nat.le_of_ble_eq_true rfl) (Nat.le_of_ble_eq_true rfl) (Nat.le_of_ble_eq_true rfl) (by exact Nat.le_refl _) (by exact Nat.le_refl _) ?_
    rintro a _ _ ⟨o1, v1, rfl, rfl⟩
    have hX2 := hX.rec hW hD9.1 o1
    refine e_iconst 15 hic_0 dX7_could_14 rfl ?_
    refine e_istore_n 16 dX7_could_15 rfl (by decide) (zst1_1 rfl) ?_
    refine e_iconst 17 hic_0 dX7_could_16 rfl ?_
    refine e_istore_n 18 dX7_could_17 rfl (by decide) (zst1_2 rfl) ?_
    exact l_X7_could G _ _ hr hX2 hF h9 v1 (Λ 0 1) 0 (nI 0) (by omega) ⟨_, rfl, (iteP h4).symm, hX2, fun q hq => o1 q (by omega), rfl, rfl⟩
  · have h4 := zB_0 h4
    refine e_bipush 9 hbi_m2 dX7_could_7 rfl ?_
    refine e_ireturn .int dX7_could_9 rfl rfl ?_
    exact ⟨_, rfl, (iteN h4).symm, hX, fun _ _ => rfl, rfl, rfl⟩

theorem i2l_nI9 {k : Nat} (h : k ≤ 1000000) : (nI k).toInt64 = lN k := by
  apply Int64.toInt_inj.mp
  rw [Int32.toInt_toInt64, nI_toInt (by omega)]
  unfold lN
  rw [Int64.toInt_ofNat']
  have e9 : (Int64.size : Int) = 18446744073709551616 := rfl
  symm
  apply Int.bmod_eq_of_le <;> omega
set_option maxHeartbeats 4000000 in
set_option maxRecDepth 100000 in
theorem l_X7_letterW (G : zG) (d : Nat) (Q : zQ) {D E : Nat} {Λ : zLd} {late : Nat} {tr : Int64} {t : zTx} {m : zMo} {im : Nat → Nat × zMo} {l : zLt} {r : zWr} {mi : zFi} {ml : zFl} {mr : zFr} (hr : zRf mr D E) (hX : zX mi ml D Λ late tr t m im l r) (hF : zWf Λ late t m im l r) (h9 : l.1 = 1) (h68 : ∀ v, v < Λ 0 1 → zBit (nI l.2.1) v → mi 68 v = nI (zWrote Λ m l v)) : ∀ (k w v : Nat), w + k = Λ 0 1 → Q (some (.long (lN (zprodA (zWf1 (nI l.2.1) (nI 0) (zWrote Λ m l)) k w v)))) mi ml mr → zE G (zRm (d + 1) 238 238) (zQm G 238 238 Q) yX7_letterWeight.cls yX7_letterWeight.name cX7_letterWeight 4 (some .long) 238 4 [.ref 0, .long (lN v), zx, .int (nI w)] [] 238 mi ml mr := by
  intro k
  induction k with
  | zero =>
    intro w v h hQ
    obtain ⟨hΛ, hlate, htr, ht, hm, him, hl, hw, hn72⟩ := id hX
    obtain ⟨hW, hla30, htw, hmw, himw, hlw, hrw⟩ := id hF
    have hP3 := hW.1.1
    have hW5 := hW.1.2.1
    have hy99 := hmw.1
    have hD9 := hr.Dl
    refine e_iload_n 5 dX7_letterWeight_4 rfl rfl ?_
    refine e_aload_n 6 dX7_letterWeight_5 rfl rfl ?_
    refine e_getr 9 dX7_letterWeight_6 lf_X7_62 rfl rfl rfl (by decide) hr.land ?_
    refine e_geti 12 dX7_letterWeight_9 lf_X7_222 rfl rfl hr.dD.k0 hr.dD.l0 (hΛ.f1) ?_
    refine e_icmp_geN 48 15 dX7_letterWeight_12 (by decide) rfl (by omega) (by omega) (fun h12 => ?_) (fun h12 => ?_)
    · refine e_lload_n 49 dX7_letterWeight_48 rfl rfl ?_
      refine e_lreturn dX7_letterWeight_49 rfl ?_
      exact hQ
    · exact absurd h12 (by omega)
  | succ k ih =>
    intro w v h hQ
    obtain ⟨hΛ, hlate, htr, ht, hm, him, hl, hw, hn72⟩ := id hX
    obtain ⟨hW, hla30, htw, hmw, himw, hlw, hrw⟩ := id hF
    have hP3 := hW.1.1
    have hW5 := hW.1.2.1
    have hy99 := hmw.1
    have hD9 := hr.Dl
    refine e_iload_n 5 dX7_letterWeight_4 rfl rfl ?_
    refine e_aload_n 6 dX7_letterWeight_5 rfl rfl ?_
    refine e_getr 9 dX7_letterWeight_6 lf_X7_62 rfl rfl rfl (by decide) hr.land ?_
    refine e_geti 12 dX7_letterWeight_9 lf_X7_222 rfl rfl hr.dD.k0 hr.dD.l0 (hΛ.f1) ?_
    refine e_icmp_geN 48 15 dX7_letterWeight_12 (by decide) rfl (by omega) (by omega) (fun h12 => ?_) (fun h12 => ?_)
    · exact absurd h12 (by omega)
    · refine e_aload_n 16 dX7_letterWeight_15 rfl rfl ?_
      refine e_getr 19 dX7_letterWeight_16 lf_X7_34 rfl rfl rfl (by decide) hr.letter ?_
      refine e_geti 22 dX7_letterWeight_19 lf_X7_225 rfl rfl rfl (by decide) (hl.2 h9).1 ?_
      refine e_iload_n 23 dX7_letterWeight_22 rfl rfl ?_
      refine c_Sqi 26 dX7_letterWeight_23 (k_X7_isIn G) lm_X7_245 zt_yX7_isIn rfl rfl rfl (Nat.le_of_ble_eq_true rfl) (Nat.le_of_ble_eq_true rfl) (Nat.le_of_ble_eq_true rfl) (by exact Nat.le_refl _) (by exact Nat.le_refl _) ?_
      refine e_if_eq 42 29 dX7_letterWeight_26 (by decide) rfl (fun h26 => ?_) (fun h26 => ?_)
      · have h26 := zB_0 h26
        refine e_iinc 45 dX7_letterWeight_42 rfl (by decide) rfl (z_inc hii_1) (zst1_3 rfl) ?_
        refine e_goto 4 dX7_letterWeight_45 (by decide) ?_
        rw [show zprodA (zWf1 (nI l.2.1) (nI 0) (zWrote Λ m l)) (k + 1) w v = zprodA (zWf1 (nI l.2.1) (nI 0) (zWrote Λ m l)) k (w + 1) (v * (zWf1 (nI l.2.1) (nI 0) (zWrote Λ m l)) w) from rfl] at hQ
        first
          | (rw [show (zWf1 (nI l.2.1) (nI 0) (zWrote Λ m l)) w = 1 from (iteN h26).trans (iteN (zBit_z w (by omega))), Nat.mul_one] at hQ; exact ih (w + 1) v (by omega) hQ)
          | (rw [show (zWf1 (nI l.2.1) (nI 0) (zWrote Λ m l)) w = zWrote Λ m l w from iteP h26] at hQ; exact ih (w + 1) _ (by omega) hQ)
      · have h26 := zB_1 h26
        refine e_lload_n 30 dX7_letterWeight_29 rfl rfl ?_
        refine e_aload_n 31 dX7_letterWeight_30 rfl rfl ?_
        refine e_getr 34 dX7_letterWeight_31 lf_X7_34 rfl rfl rfl (by decide) hr.letter ?_
        refine e_getr 37 dX7_letterWeight_34 lf_X7_249 rfl rfl rfl (by decide) hr.lshares ?_
        refine e_iload_n 38 dX7_letterWeight_37 rfl rfl ?_
        refine e_iald 39 dX7_letterWeight_38 rfl rfl (by decide) rfl (by show w < 5; omega) (h68 w h12 h26) ?_
        refine e_i2l 40 dX7_letterWeight_39 rfl ?_
        rw [i2l_nI9 (by have := zWrote_le hF h9 w; omega)]
        refine e_lmul 41 dX7_letterWeight_40 rfl ?_
        rw [lN_mul]
        refine e_lstore_n 42 dX7_letterWeight_41 rfl (by decide) (zst2_1 rfl) ?_
        refine e_iinc 45 dX7_letterWeight_42 rfl (by decide) rfl (z_inc hii_1) (zst1_3 rfl) ?_
        refine e_goto 4 dX7_letterWeight_45 (by decide) ?_
        rw [show zprodA (zWf1 (nI l.2.1) (nI 0) (zWrote Λ m l)) (k + 1) w v = zprodA (zWf1 (nI l.2.1) (nI 0) (zWrote Λ m l)) k (w + 1) (v * (zWf1 (nI l.2.1) (nI 0) (zWrote Λ m l)) w) from rfl] at hQ
        first
          | (rw [show (zWf1 (nI l.2.1) (nI 0) (zWrote Λ m l)) w = 1 from (iteN h26).trans (iteN (zBit_z w (by omega))), Nat.mul_one] at hQ; exact ih (w + 1) v (by omega) hQ)
          | (rw [show (zWf1 (nI l.2.1) (nI 0) (zWrote Λ m l)) w = zWrote Λ m l w from iteP h26] at hQ; exact ih (w + 1) _ (by omega) hQ)
set_option maxHeartbeats 4000000 in
set_option maxRecDepth 100000 in
theorem k_X7_letterWeight (G : zG) {D E : Nat} {Λ : zLd} {late : Nat} {tr : Int64} {t : zTx} {m : zMo} {im : Nat → Nat × zMo} {l : zLt} {r : zWr} {mi : zFi} {ml : zFl} {mr : zFr} (hr : zRf mr D E) (hX : zX mi ml D Λ late tr t m im l r) (hF : zWf Λ late t m im l r) (h9 : l.1 = 1) (h68 : ∀ v, v < Λ 0 1 → zBit (nI l.2.1) v → mi 68 v = nI (zWrote Λ m l v)) : zMet G 1 yX7_letterWeight cX7_letterWeight 4 (some .long) [.ref 0] 238 mi ml mr 238 (zPq (some (.long (lN (zLw Λ m l)))) mi ml mr) := by
  refine z_intro ([.ref 0, zx, zx, zx]) (by decide) rfl (Nat.le_of_ble_eq_true rfl) ?_
  refine e_lconst 1 (v := lN 1) rfl dX7_letterWeight_0 rfl ?_
  refine e_lstore_n 2 dX7_letterWeight_1 rfl (by decide) (zst2_1 rfl) ?_
  refine e_iconst 3 hic_0 dX7_letterWeight_2 rfl ?_
  refine e_istore_n 4 dX7_letterWeight_3 rfl (by decide) (zst1_3 rfl) ?_
  exact l_X7_letterW G _ _ hr hX hF h9 h68 (Λ 0 1) 0 1 (by omega) ⟨rfl, rfl, rfl, rfl⟩

def sForgOk (Λ : zLd) (b q f what : Int32) : Prop := vR b 10 69 ∧ vN q (Λ 0 0) ∧ vR f 0 10 ∧ vR what 0 1
def sForgOk_dec (Λ : zLd) (b q f what : Int32) : Decidable (sForgOk Λ b q f what) := by unfold sForgOk; exact @instDecidableAnd _ _ (vR_dec _ _ _) (@instDecidableAnd _ _ (vN_dec _ _) (@instDecidableAnd _ _ (vR_dec _ _ _) (vR_dec _ _ _)))
def zForger (Λ : zLd) (m : zMo) (l : zLt) (b q f : Nat) : Nat := zWa Λ m (nI l.2.1) (nI 0) b q * f
def zForg (Λ : zLd) (m : zMo) (l : zLt) (b q f : Nat) : Nat := zForger Λ m l b q f + zLw Λ m l * (10 - f)
def sForged (Λ : zLd) (m : zMo) (l : zLt) (b q f what : Int32) : Int64 := @ite _ (sForgOk Λ b q f what) (sForgOk_dec Λ b q f what) (@ite _ (zLetS l m) (zLetS_dec l m) (if zForg Λ m l (zK b) (zK q) (zK f) = 0 then -2 else sFrac (lN (zForger Λ m l (zK b) (zK q) (zK f))) (zForger Λ m l (zK b) (zK q) (zK f)) (zForg Λ m l (zK b) (zK q) (zK f)) (zK what)) (-2)) (-1)
theorem zLw_le {Λ : zLd} {late : Nat} {t : zTx} {m : zMo} {im : Nat → Nat × zMo} {l : zLt} {r : zWr} (hF : zWf Λ late t m im l r) (h1 : l.1 = 1) : zLw Λ m l ≤ 1000000000000000 := zWt_le hF.1.1.2.1 (fun w _ => zWrote_le hF h1 w)
set_option maxHeartbeats 4000000 in
set_option maxRecDepth 100000 in
theorem k_X7_forged (G : zG) {D E : Nat} {Λ : zLd} {late : Nat} {tr : Int64} {t : zTx} {m : zMo} {im : Nat → Nat × zMo} {l : zLt} {r : zWr} {mi : zFi} {ml : zFl} {mr : zFr} (hr : zRf mr D E) (hX : zX mi ml D Λ late tr t m im l r) (hF : zWf Λ late t m im l r) {b q f what : Int32} : zMet G 6 yX7_forged cX7_forged 9 (some .long) [.ref 0, .int b, .int q, .int f, .int what] 238 mi ml mr 238 (zPl fun x u b' c => x = sForged Λ m l b q f what ∧ zX u b' D Λ late tr t m im l r ∧ (∀ q, 224 ≤ q → u q = mi q) ∧ b' = ml ∧ c = mr) := by
  obtain ⟨hΛ, hlate, htr, ht, hm, him, hl, hw, hn72⟩ := id hX
  obtain ⟨hW, hla30, htw, hmw, himw, hlw, hrw⟩ := id hF
  have hP3 := hW.1.1
  have hW5 := hW.1.2.1
  have hy99 := hmw.1
  have hD9 := hr.Dl
  refine z_intro ([.ref 0, .int b, .int q, .int f, .int what, zx, zx, zx, zx]) (by decide) rfl (Nat.le_of_ble_eq_true rfl) ?_
  refine e_iload_n 1 dX7_forged_0 rfl rfl ?_
  refine c_Sqi 4 dX7_forged_1 (k_X7_isAge G) lm_X7_156 zt_yX7_isAge rfl rfl rfl (Nat.le_of_ble_eq_true rfl) (Nat.le_of_ble_eq_true rfl) (Nat.le_of_ble_eq_true rfl) (by exact Nat.le_refl _) (by exact Nat.le_refl _) ?_
  refine e_if_eq 35 7 dX7_forged_4 (by decide) rfl (fun h4 => ?_) (fun h4 => ?_)
  · have h4 := zB_0 h4
    refine e_ldc2_w 38 lc_X7_207 dX7_forged_35 rfl ?_
    refine e_lreturn dX7_forged_38 rfl ?_
    exact ⟨_, rfl, (iteN (fun z => by first | exact h4 z.1 | exact h12 z.2.1 | exact h22 z.2.2.1 | exact h32 z.2.2.2)).symm, hX, fun _ _ => rfl, rfl, rfl⟩
  · have h4 := zB_1 h4
    obtain ⟨eb, hb9⟩ := h4.nat
    refine e_aload_n 8 dX7_forged_7 rfl rfl ?_
    refine e_iload_n 9 dX7_forged_8 rfl rfl ?_
    refine c_Vqi 12 (ci := 7) dX7_forged_9 (k_X7_isPlace G hr hΛ hW) lm_X7_118 zi_yX7_isPlace zs_yX7_isPlace rfl (by first | rfl | assumption) (by first | decide | omega) rfl rfl rfl (Nat.le_of_ble_eq_true rfl) (Nat.le_of_ble_eq_true rfl) (Nat.le_of_ble_eq_true rfl) (by exact Nat.le_refl _) (by exact Nat.le_refl _) ?_
    refine e_if_eq 35 15 dX7_forged_12 (by decide) rfl (fun h12 => ?_) (fun h12 => ?_)
    · have h12 := zB_0 h12
      refine e_ldc2_w 38 lc_X7_207 dX7_forged_35 rfl ?_
      refine e_lreturn dX7_forged_38 rfl ?_
      exact ⟨_, rfl, (iteN (fun z => by first | exact h4 z.1 | exact h12 z.2.1 | exact h22 z.2.2.1 | exact h32 z.2.2.2)).symm, hX, fun _ _ => rfl, rfl, rfl⟩
    · have h12 := zB_1 h12
      obtain ⟨eq, hq9⟩ := h12.nat
      refine e_iload_n 16 dX7_forged_15 rfl rfl ?_
      refine e_iconst 17 hic_0 dX7_forged_16 rfl ?_
      refine e_bipush 19 hbi_10 dX7_forged_17 rfl ?_
      refine c_Sqi 22 dX7_forged_19 (k_X7_btw G (by decide) (by decide)) lm_X7_80 zt_yX7_between rfl rfl rfl (Nat.le_of_ble_eq_true rfl) (Nat.le_of_ble_eq_true rfl) (Nat.le_of_ble_eq_true rfl) (by exact Nat.le_refl _) (by exact Nat.le_refl _) ?_
      refine e_if_eq 35 25 dX7_forged_22 (by decide) rfl (fun h22 => ?_) (fun h22 => ?_)
      · have h22 := zB_0 h22
        refine e_ldc2_w 38 lc_X7_207 dX7_forged_35 rfl ?_
        refine e_lreturn dX7_forged_38 rfl ?_
        exact ⟨_, rfl, (iteN (fun z => by first | exact h4 z.1 | exact h12 z.2.1 | exact h22 z.2.2.1 | exact h32 z.2.2.2)).symm, hX, fun _ _ => rfl, rfl, rfl⟩
      · have h22 := zB_1 h22
        obtain ⟨ef, hf9⟩ := h22.nat
        refine e_iload 27 dX7_forged_25 rfl rfl ?_
        refine e_iconst 28 hic_0 dX7_forged_27 rfl ?_
        refine e_iconst 29 hic_1 dX7_forged_28 rfl ?_
        refine c_Sqi 32 dX7_forged_29 (k_X7_btw G (by decide) (by decide)) lm_X7_80 zt_yX7_between rfl rfl rfl (Nat.le_of_ble_eq_true rfl) (Nat.le_of_ble_eq_true rfl) (Nat.le_of_ble_eq_true rfl) (by exact Nat.le_refl _) (by exact Nat.le_refl _) ?_
        refine e_if_ne 39 35 dX7_forged_32 (by decide) rfl (fun h32 => ?_) (fun h32 => ?_)
        · have h32 := zB_1 h32
          obtain ⟨ewhat, hw9⟩ := h32.nat
          have hok : sForgOk Λ b q f what := ⟨h4, h12, h22, h32⟩
          refine e_aload_n 40 dX7_forged_39 rfl rfl ?_
          refine c_Vqi 43 (ci := 7) dX7_forged_40 (k_X7_letterStands G hr hX hF) lm_X7_238 zi_yX7_letterStands zs_yX7_letterStands rfl rfl (by first | decide | omega) rfl rfl rfl (Nat.le_of_ble_eq_true rfl) (Nat.le_of_ble_eq_true rfl) (Nat.le_of_ble_eq_true rfl) (by exact Nat.le_refl _) (by exact Nat.le_refl _) ?_
          refine e_if_ne 50 46 dX7_forged_43 (by decide) rfl (fun h43 => ?_) (fun h43 => ?_)
          · have h43 := zB_1 h43
            have h9 : l.1 = 1 := h43.1
            refine e_aload_n 51 dX7_forged_50 rfl rfl ?_
            refine c_Vv 54 (ci := 7) dX7_forged_51 (k_X7_recallLetter G hr hX hF h9) lm_X7_242 zi_yX7_recallLetter zs_yX7_recallLetter rfl (by first | rfl | assumption) (by first | decide | omega) rfl rfl rfl (Nat.le_of_ble_eq_true rfl) (Nat.le_of_ble_eq_true rfl) (Nat.le_of_ble_eq_true rfl) (by exact Nat.le_refl _) (by exact Nat.le_refl _) ?_
            rintro a _ _ ⟨o1, v1, rfl, rfl⟩
            have hX2 := hX.rec hW hD9.1 o1
            obtain ⟨hΛ, hlate, htr, ht, hm, him, hl, hw, hn72⟩ := id hX2
            have eAns : sForged Λ m l b q f what = if zForg Λ m l (zK b) (zK q) (zK f) = 0 then -2 else sFrac (lN (zForger Λ m l (zK b) (zK q) (zK f))) (zForger Λ m l (zK b) (zK q) (zK f)) (zForg Λ m l (zK b) (zK q) (zK f)) (zK what) := (iteP hok).trans (iteP h43)
            rw [eAns]
            clear eAns hok h4 h12 h22 h32
            generalize zK b = b9 at eb hb9 ⊢
            generalize zK q = q9 at eq hq9 ⊢
            generalize zK f = f9 at ef hf9 ⊢
            generalize zK what = k9 at ewhat hw9 ⊢
            subst eb eq ef ewhat
            have g1 := zWa_le (on := nI l.2.1) (nt := nI 0) hW hmw (a := b9) (p := q9) (by omega) (by omega) (by omega)
            have g2 := zLw_le hF h9
            have g3 : zForger Λ m l b9 q9 f9 ≤ 10000000000000000 := Nat.le_trans (Nat.mul_le_mul g1 hf9.2) (by decide)
            have g4 : zLw Λ m l * (10 - f9) ≤ 10000000000000000 := Nat.le_trans (Nat.mul_le_mul g2 (Nat.sub_le 10 f9)) (by decide)
            have g5 : zForg Λ m l b9 q9 f9 = zForger Λ m l b9 q9 f9 + zLw Λ m l * (10 - f9) := rfl
            refine e_aload_n 55 dX7_forged_54 rfl rfl ?_
            refine e_aload_n 56 dX7_forged_55 rfl rfl ?_
            refine e_getr 59 dX7_forged_56 lf_X7_34 rfl rfl rfl (by decide) hr.letter ?_
            refine e_geti 62 dX7_forged_59 lf_X7_225 rfl rfl rfl (by decide) (hl.2 h9).1 ?_
            refine e_iconst 63 hic_0 dX7_forged_62 rfl ?_
            refine e_iload_n 64 dX7_forged_63 rfl rfl ?_
            refine e_iload_n 65 dX7_forged_64 rfl rfl ?_
            refine c_Vql 68 (ci := 7) dX7_forged_65 (k_X7_weight G hr hX2 hF (by omega) (by omega) (by omega)) lm_X7_219 zi_yX7_weight zs_yX7_weight rfl (by first | rfl | assumption) (by first | decide | omega) rfl rfl rfl (Nat.le_of_ble_eq_true rfl) (Nat.le_of_ble_eq_true rfl) (Nat.le_of_ble_eq_true rfl) (by exact Nat.le_refl _) (by exact Nat.le_refl _) ?_
            refine e_iload_n 69 dX7_forged_68 rfl rfl ?_
            refine e_i2l 70 dX7_forged_69 rfl ?_
            rw [i2l_nI9 (by omega)]
            refine e_lmul 71 dX7_forged_70 rfl ?_
            rw [lN_mul]
            refine e_lstore 73 dX7_forged_71 rfl (by decide) (zst2_5 rfl) ?_
            refine e_lload 75 dX7_forged_73 rfl rfl ?_
            refine e_aload_n 76 dX7_forged_75 rfl rfl ?_
            refine c_Vql 79 (ci := 7) dX7_forged_76 (k_X7_letterWeight G hr hX2 hF h9 v1) lm_X7_251 zi_yX7_letterWeight zs_yX7_letterWeight rfl rfl (by first | decide | omega) rfl rfl rfl (Nat.le_of_ble_eq_true rfl) (Nat.le_of_ble_eq_true rfl) (Nat.le_of_ble_eq_true rfl) (by exact Nat.le_refl _) (by exact Nat.le_refl _) ?_
            refine e_bipush 81 hbi_10 dX7_forged_79 rfl ?_
            refine e_iload_n 82 dX7_forged_81 rfl rfl ?_
            first | refine e_isubN 83 dX7_forged_82 rfl (by omega) ?_ | refine e_isub 83 dX7_forged_82 rfl ?_
            refine e_i2l 84 dX7_forged_83 rfl ?_
            rw [i2l_nI9 (by omega)]
            refine e_lmul 85 dX7_forged_84 rfl ?_
            rw [lN_mul]
            refine e_ladd 86 dX7_forged_85 rfl ?_
            rw [lN_add]
            refine e_lstore 88 dX7_forged_86 rfl (by decide) (zst2_7 rfl) ?_
            refine e_lload 90 dX7_forged_88 rfl rfl ?_
            refine e_lconst 91 (v := lN 0) rfl dX7_forged_90 rfl ?_
            refine e_lcmp 92 dX7_forged_91 rfl ?_
            refine e_if_ne 101 95 dX7_forged_92 (by decide) rfl (fun h92 => ?_) (fun h92 => ?_)
            · have h92 : ¬ zForg Λ m l b9 q9 f9 = 0 := fun z => h92 ((lg_cmp_eq _ _).mpr (congrArg lN z))
              refine e_lload 103 dX7_forged_101 rfl rfl ?_
              refine e_lload 105 dX7_forged_103 rfl rfl ?_
              refine e_iload 107 dX7_forged_105 rfl rfl ?_
              refine c_Sql 110 dX7_forged_107 (k_X7_leastTerms G (a := zForger Λ m l b9 q9 f9) (b := zForg Λ m l b9 q9 f9) (Or.inl rfl) (by omega) (by omega) (by omega) (by omega)) lm_X7_215 zt_yX7_leastTerms rfl rfl rfl (Nat.le_of_ble_eq_true rfl) (Nat.le_of_ble_eq_true rfl) (Nat.le_of_ble_eq_true rfl) (by exact Nat.le_refl _) (by exact Nat.le_refl _) ?_
              refine e_lreturn dX7_forged_110 rfl ?_
              exact ⟨_, rfl, by first | rw [if_pos h92] | rw [if_neg h92], hX2, fun q hq => o1 q (by omega), rfl, rfl⟩
            · have h92 : zForg Λ m l b9 q9 f9 = 0 := (lN_lt63 (by omega) (by decide)).2.mp ((lg_cmp_eq _ _).mp h92)
              refine e_ldc2_w 98 lc_X7_213 dX7_forged_95 rfl ?_
              refine e_goto 110 dX7_forged_98 (by decide) ?_
              refine e_lreturn dX7_forged_110 rfl ?_
              exact ⟨_, rfl, by first | rw [if_pos h92] | rw [if_neg h92], hX2, fun q hq => o1 q (by omega), rfl, rfl⟩
          · have h43 := zB_0 h43
            refine e_ldc2_w 49 lc_X7_213 dX7_forged_46 rfl ?_
            refine e_lreturn dX7_forged_49 rfl ?_
            exact ⟨_, rfl, ((iteP hok).trans (iteN h43)).symm, hX, fun _ _ => rfl, rfl, rfl⟩
        · have h32 := zB_0 h32
          refine e_ldc2_w 38 lc_X7_207 dX7_forged_35 rfl ?_
          refine e_lreturn dX7_forged_38 rfl ?_
          exact ⟨_, rfl, (iteN (fun z => by first | exact h4 z.1 | exact h12 z.2.1 | exact h22 z.2.2.1 | exact h32 z.2.2.2)).symm, hX, fun _ _ => rfl, rfl, rfl⟩

