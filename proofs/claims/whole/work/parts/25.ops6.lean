/-- rate: how much the trace grows, the answer -/
def sRateT (k : Nat) : Nat := if k = 0 then 1 else if k = 1 then 11 else if k = 2 then 101 else if k = 3 then 1101 else if k = 4 then 11101 else 100001
def zMn (Λ : zLd) (m : zMo) (w who : Nat) : Nat := zMeanW (Λ 0 0) who (m.2.2.2 w)
def sRateV (Λ : zLd) (m : zMo) (w k : Nat) : Int32 := if k = 0 then nI (Λ 3 w) else if k = 1 then nI (Λ 3 w + zMn Λ m w 0) else if k = 2 then nI (Λ 3 w + zMn Λ m w 2) else if k = 3 then nI (Λ 3 w + zMn Λ m w 2) - nI (zMn Λ m w 1) else if k = 4 then nI 2 * (nI (Λ 3 w + zMn Λ m w 2) - nI (zMn Λ m w 1)) else nI (Λ 3 w + Λ 2 w)
def sRateOk (Λ : zLd) (kind w : Int32) : Prop := vN w (Λ 0 1) ∧ vN kind 6
def sRateOk_dec (Λ : zLd) (kind w : Int32) : Decidable (sRateOk Λ kind w) := by unfold sRateOk; exact @instDecidableAnd _ _ (vN_dec _ _) (vN_dec _ _)
def sRate (Λ : zLd) (m : zMo) (kind w : Int32) : Int32 := @ite _ (sRateOk Λ kind w) (sRateOk_dec Λ kind w) (sRateV Λ m (zK w) (zK kind)) (-1000000)
def sRateTr (Λ : zLd) (tr : Int64) (kind w : Int32) : Int64 := @ite _ (sRateOk Λ kind w) (sRateOk_dec Λ kind w) (tr + lN (sRateT (zK kind))) tr
/-- the trace alone is another -/
def zTrd (ml b : zFl) (v : Int64) : Prop := b 0 11 = v ∧ ∀ q, q ≠ 0 → b q = ml q
theorem zX.tr {mi : zFi} {ml b : zFl} {D : Nat} {Λ : zLd} {late : Nat} {tr v : Int64} {t : zTx} {m : zMo} {im : Nat → Nat × zMo} {l : zLt} {r : zWr} (h : zX mi ml D Λ late tr t m im l r) (hb : zTrd ml b v) : zX mi b D Λ late v t m im l r := ⟨h.1, h.2.1, hb.1, h.2.2.2⟩
theorem zTrd.p {ml : zFl} {v : Int64} : zTrd ml (zp ml 0 11 v) v := ⟨zp_s _ _ _ _, fun _ h => zp_r _ _ _ h⟩
theorem zTrd.t {m1 m2 m3 : zFl} {v w : Int64} (h1 : zTrd m1 m2 v) (h2 : zTrd m2 m3 w) : zTrd m1 m3 w := ⟨h2.1, fun q h => (h2.2 q h).trans (h1.2 q h)⟩
theorem lN_a3 (x : Int64) (a b : Nat) : x + lN a + lN b = x + lN (a + b) := by rw [Int64.add_assoc, lN_add]
set_option maxHeartbeats 4000000 in
set_option maxRecDepth 100000 in
theorem k_X7_rateWord (G : zG) {D E : Nat} {Λ : zLd} {late : Nat} {tr : Int64} {t : zTx} {m : zMo} {im : Nat → Nat × zMo} {l : zLt} {r : zWr} {mi : zFi} {ml : zFl} {mr : zFr} (hr : zRf mr D E) (hX : zX mi ml D Λ late tr t m im l r) (hF : zWf Λ late t m im l r) {w : Nat} (hw9 : w < Λ 0 1) : zMet G 0 yX7_rateWord cX7_rateWord 2 (some .int) [.ref 0, .int (nI w)] 238 mi ml mr 238 (zPi fun x a b c => x = sRateV Λ m w 0 ∧ a = mi ∧ zTrd ml b (tr + lN (sRateT 0)) ∧ c = mr) := by
  obtain ⟨hΛ, hlate, htr, ht, hm, him, hl, hw, hn72⟩ := id hX
  obtain ⟨hW, hla30, htw, hmw, himw, hlw, hrw⟩ := id hF
  have hP3 := hW.1.1
  have hW5 := hW.1.2.1
  have hy99 := hmw.1
  have hD9 := hr.Dl
  refine z_intro ([.ref 0, .int (nI w)]) (by decide) rfl (Nat.le_of_ble_eq_true rfl) ?_
  refine e_aload_n 1 dX7_rateWord_0 rfl rfl ?_
  refine e_dup 2 dX7_rateWord_1 rfl rfl ?_
  refine e_getl 5 dX7_rateWord_2 lf_X7_73 rfl rfl rfl (by decide) htr ?_
  refine e_lconst 6 (v := lN 1) rfl dX7_rateWord_5 rfl ?_
  refine e_ladd 7 dX7_rateWord_6 rfl ?_
  refine e_putl 10 dX7_rateWord_7 lf_X7_73 rfl rfl rfl rfl rfl (by decide) ?_
  refine e_aload_n 11 dX7_rateWord_10 rfl rfl ?_
  refine e_getr 14 dX7_rateWord_11 lf_X7_62 rfl rfl rfl (by decide) hr.land ?_
  refine e_getr 17 dX7_rateWord_14 lf_X7_133 rfl rfl hr.dD.k0 hr.dD.l0 hr.dD.r3 ?_
  refine e_iload_n 18 dX7_rateWord_17 rfl rfl ?_
  refine e_iald 19 dX7_rateWord_18 rfl hr.dD.k3 (hr.dD.l (j := 3) (by decide)) rfl (by rw [hr.dD.n3]; omega) (hΛ.2.2 w hw9).2.1 ?_
  refine e_ireturn .int dX7_rateWord_19 rfl rfl ?_
  exact ⟨_, rfl, rfl, rfl, zTrd.p, rfl⟩

set_option maxHeartbeats 4000000 in
set_option maxRecDepth 100000 in
theorem k_X7_rateNew (G : zG) {D E : Nat} {Λ : zLd} {late : Nat} {tr : Int64} {t : zTx} {m : zMo} {im : Nat → Nat × zMo} {l : zLt} {r : zWr} {mi : zFi} {ml : zFl} {mr : zFr} (hr : zRf mr D E) (hX : zX mi ml D Λ late tr t m im l r) (hF : zWf Λ late t m im l r) {w : Nat} (hw9 : w < Λ 0 1) : zMet G 3 yX7_rateNew cX7_rateNew 2 (some .int) [.ref 0, .int (nI w)] 238 mi ml mr 238 (zPi fun x a b c => x = sRateV Λ m w 1 ∧ a = mi ∧ zTrd ml b (tr + lN (sRateT 1)) ∧ c = mr) := by
  obtain ⟨hΛ, hlate, htr, ht, hm, him, hl, hw, hn72⟩ := id hX
  obtain ⟨hW, hla30, htw, hmw, himw, hlw, hrw⟩ := id hF
  have hP3 := hW.1.1
  have hW5 := hW.1.2.1
  have hy99 := hmw.1
  have hD9 := hr.Dl
  refine z_intro ([.ref 0, .int (nI w)]) (by decide) rfl (Nat.le_of_ble_eq_true rfl) ?_
  refine e_aload_n 1 dX7_rateNew_0 rfl rfl ?_
  refine e_dup 2 dX7_rateNew_1 rfl rfl ?_
  refine e_getl 5 dX7_rateNew_2 lf_X7_73 rfl rfl rfl (by decide) htr ?_
  refine e_ldc2_w 8 lc_X7_311 dX7_rateNew_5 rfl ?_
  refine e_ladd 9 dX7_rateNew_8 rfl ?_
  refine e_putl 12 dX7_rateNew_9 lf_X7_73 rfl rfl rfl rfl rfl (by decide) ?_
  refine e_aload_n 13 dX7_rateNew_12 rfl rfl ?_
  refine e_iload_n 14 dX7_rateNew_13 rfl rfl ?_
  refine c_Vi 17 (ci := 7) dX7_rateNew_14 (k_X7_rateWord G hr (hX.tr zTrd.p) hF hw9) lm_X7_278 zi_yX7_rateWord zs_yX7_rateWord rfl (by first | rfl | assumption) (by first | decide | omega) rfl rfl rfl (Nat.le_of_ble_eq_true rfl) (Nat.le_of_ble_eq_true rfl) (Nat.le_of_ble_eq_true rfl) (by exact Nat.le_refl _) (by exact Nat.le_refl _) ?_
  rintro v1 a1 b1 c1 ⟨rfl, rfl, ht1, rfl⟩
  refine e_aload_n 18 dX7_rateNew_17 rfl rfl ?_
  refine e_iload_n 19 dX7_rateNew_18 rfl rfl ?_
  refine e_iconst 20 hic_0 dX7_rateNew_19 rfl ?_
  refine c_Vqi 23 (ci := 7) dX7_rateNew_20 (k_X7_meanNow G hr (hX.tr (zTrd.p.t ht1)) hF hw9 (by decide)) lm_X7_167 zi_yX7_meanNow zs_yX7_meanNow rfl (by first | rfl | assumption) (by first | decide | omega) rfl rfl rfl (Nat.le_of_ble_eq_true rfl) (Nat.le_of_ble_eq_true rfl) (Nat.le_of_ble_eq_true rfl) (by exact Nat.le_refl _) (by exact Nat.le_refl _) ?_
  first | refine e_iaddN 24 dX7_rateNew_23 rfl ?_ | refine e_iadd 24 dX7_rateNew_23 rfl ?_
  refine e_ireturn .int dX7_rateNew_24 rfl rfl ?_
  exact ⟨_, rfl, rfl, rfl, (by have h9 := zTrd.p.t ht1; rw [lN_a3] at h9; exact h9), rfl⟩

set_option maxHeartbeats 4000000 in
set_option maxRecDepth 100000 in
theorem k_X7_rateHad (G : zG) {D E : Nat} {Λ : zLd} {late : Nat} {tr : Int64} {t : zTx} {m : zMo} {im : Nat → Nat × zMo} {l : zLt} {r : zWr} {mi : zFi} {ml : zFl} {mr : zFr} (hr : zRf mr D E) (hX : zX mi ml D Λ late tr t m im l r) (hF : zWf Λ late t m im l r) {w : Nat} (hw9 : w < Λ 0 1) : zMet G 3 yX7_rateHad cX7_rateHad 2 (some .int) [.ref 0, .int (nI w)] 238 mi ml mr 238 (zPi fun x a b c => x = sRateV Λ m w 2 ∧ a = mi ∧ zTrd ml b (tr + lN (sRateT 2)) ∧ c = mr) := by
  obtain ⟨hΛ, hlate, htr, ht, hm, him, hl, hw, hn72⟩ := id hX
  obtain ⟨hW, hla30, htw, hmw, himw, hlw, hrw⟩ := id hF
  have hP3 := hW.1.1
  have hW5 := hW.1.2.1
  have hy99 := hmw.1
  have hD9 := hr.Dl
  refine z_intro ([.ref 0, .int (nI w)]) (by decide) rfl (Nat.le_of_ble_eq_true rfl) ?_
  refine e_aload_n 1 dX7_rateHad_0 rfl rfl ?_
  refine e_dup 2 dX7_rateHad_1 rfl rfl ?_
  refine e_getl 5 dX7_rateHad_2 lf_X7_73 rfl rfl rfl (by decide) htr ?_
  refine e_ldc2_w 8 lc_X7_313 dX7_rateHad_5 rfl ?_
  refine e_ladd 9 dX7_rateHad_8 rfl ?_
  refine e_putl 12 dX7_rateHad_9 lf_X7_73 rfl rfl rfl rfl rfl (by decide) ?_
  refine e_aload_n 13 dX7_rateHad_12 rfl rfl ?_
  refine e_iload_n 14 dX7_rateHad_13 rfl rfl ?_
  refine c_Vi 17 (ci := 7) dX7_rateHad_14 (k_X7_rateWord G hr (hX.tr zTrd.p) hF hw9) lm_X7_278 zi_yX7_rateWord zs_yX7_rateWord rfl (by first | rfl | assumption) (by first | decide | omega) rfl rfl rfl (Nat.le_of_ble_eq_true rfl) (Nat.le_of_ble_eq_true rfl) (Nat.le_of_ble_eq_true rfl) (by exact Nat.le_refl _) (by exact Nat.le_refl _) ?_
  rintro v1 a1 b1 c1 ⟨rfl, rfl, ht1, rfl⟩
  refine e_aload_n 18 dX7_rateHad_17 rfl rfl ?_
  refine e_iload_n 19 dX7_rateHad_18 rfl rfl ?_
  refine e_iconst 20 hic_2 dX7_rateHad_19 rfl ?_
  refine c_Vqi 23 (ci := 7) dX7_rateHad_20 (k_X7_meanNow G hr (hX.tr (zTrd.p.t ht1)) hF hw9 (by decide)) lm_X7_167 zi_yX7_meanNow zs_yX7_meanNow rfl (by first | rfl | assumption) (by first | decide | omega) rfl rfl rfl (Nat.le_of_ble_eq_true rfl) (Nat.le_of_ble_eq_true rfl) (Nat.le_of_ble_eq_true rfl) (by exact Nat.le_refl _) (by exact Nat.le_refl _) ?_
  first | refine e_iaddN 24 dX7_rateHad_23 rfl ?_ | refine e_iadd 24 dX7_rateHad_23 rfl ?_
  refine e_ireturn .int dX7_rateHad_24 rfl rfl ?_
  exact ⟨_, rfl, rfl, rfl, (by have h9 := zTrd.p.t ht1; rw [lN_a3] at h9; exact h9), rfl⟩

set_option maxHeartbeats 4000000 in
set_option maxRecDepth 100000 in
theorem k_X7_rateOver (G : zG) {D E : Nat} {Λ : zLd} {late : Nat} {tr : Int64} {t : zTx} {m : zMo} {im : Nat → Nat × zMo} {l : zLt} {r : zWr} {mi : zFi} {ml : zFl} {mr : zFr} (hr : zRf mr D E) (hX : zX mi ml D Λ late tr t m im l r) (hF : zWf Λ late t m im l r) {w : Nat} (hw9 : w < Λ 0 1) : zMet G 4 yX7_rateOver cX7_rateOver 2 (some .int) [.ref 0, .int (nI w)] 238 mi ml mr 238 (zPi fun x a b c => x = sRateV Λ m w 3 ∧ a = mi ∧ zTrd ml b (tr + lN (sRateT 3)) ∧ c = mr) := by
  obtain ⟨hΛ, hlate, htr, ht, hm, him, hl, hw, hn72⟩ := id hX
  obtain ⟨hW, hla30, htw, hmw, himw, hlw, hrw⟩ := id hF
  have hP3 := hW.1.1
  have hW5 := hW.1.2.1
  have hy99 := hmw.1
  have hD9 := hr.Dl
  refine z_intro ([.ref 0, .int (nI w)]) (by decide) rfl (Nat.le_of_ble_eq_true rfl) ?_
  refine e_aload_n 1 dX7_rateOver_0 rfl rfl ?_
  refine e_dup 2 dX7_rateOver_1 rfl rfl ?_
  refine e_getl 5 dX7_rateOver_2 lf_X7_73 rfl rfl rfl (by decide) htr ?_
  refine e_ldc2_w 8 lc_X7_315 dX7_rateOver_5 rfl ?_
  refine e_ladd 9 dX7_rateOver_8 rfl ?_
  refine e_putl 12 dX7_rateOver_9 lf_X7_73 rfl rfl rfl rfl rfl (by decide) ?_
  refine e_aload_n 13 dX7_rateOver_12 rfl rfl ?_
  refine e_iload_n 14 dX7_rateOver_13 rfl rfl ?_
  refine c_Vi 17 (ci := 7) dX7_rateOver_14 (k_X7_rateHad G hr (hX.tr zTrd.p) hF hw9) lm_X7_284 zi_yX7_rateHad zs_yX7_rateHad rfl (by first | rfl | assumption) (by first | decide | omega) rfl rfl rfl (Nat.le_of_ble_eq_true rfl) (Nat.le_of_ble_eq_true rfl) (Nat.le_of_ble_eq_true rfl) (by exact Nat.le_refl _) (by exact Nat.le_refl _) ?_
  rintro v1 a1 b1 c1 ⟨rfl, rfl, ht1, rfl⟩
  refine e_aload_n 18 dX7_rateOver_17 rfl rfl ?_
  refine e_iload_n 19 dX7_rateOver_18 rfl rfl ?_
  refine e_iconst 20 hic_1 dX7_rateOver_19 rfl ?_
  refine c_Vqi 23 (ci := 7) dX7_rateOver_20 (k_X7_meanNow G hr (hX.tr (zTrd.p.t ht1)) hF hw9 (by decide)) lm_X7_167 zi_yX7_meanNow zs_yX7_meanNow rfl (by first | rfl | assumption) (by first | decide | omega) rfl rfl rfl (Nat.le_of_ble_eq_true rfl) (Nat.le_of_ble_eq_true rfl) (Nat.le_of_ble_eq_true rfl) (by exact Nat.le_refl _) (by exact Nat.le_refl _) ?_
  refine e_isub 24 dX7_rateOver_23 rfl ?_
  refine e_ireturn .int dX7_rateOver_24 rfl rfl ?_
  exact ⟨_, rfl, rfl, rfl, (by have h9 := zTrd.p.t ht1; rw [lN_a3] at h9; exact h9), rfl⟩

set_option maxHeartbeats 4000000 in
set_option maxRecDepth 100000 in
theorem k_X7_rateKept (G : zG) {D E : Nat} {Λ : zLd} {late : Nat} {tr : Int64} {t : zTx} {m : zMo} {im : Nat → Nat × zMo} {l : zLt} {r : zWr} {mi : zFi} {ml : zFl} {mr : zFr} (hr : zRf mr D E) (hX : zX mi ml D Λ late tr t m im l r) (hF : zWf Λ late t m im l r) {w : Nat} (hw9 : w < Λ 0 1) : zMet G 5 yX7_rateKept cX7_rateKept 2 (some .int) [.ref 0, .int (nI w)] 238 mi ml mr 238 (zPi fun x a b c => x = sRateV Λ m w 4 ∧ a = mi ∧ zTrd ml b (tr + lN (sRateT 4)) ∧ c = mr) := by
  obtain ⟨hΛ, hlate, htr, ht, hm, him, hl, hw, hn72⟩ := id hX
  obtain ⟨hW, hla30, htw, hmw, himw, hlw, hrw⟩ := id hF
  have hP3 := hW.1.1
  have hW5 := hW.1.2.1
  have hy99 := hmw.1
  have hD9 := hr.Dl
  refine z_intro ([.ref 0, .int (nI w)]) (by decide) rfl (Nat.le_of_ble_eq_true rfl) ?_
  refine e_aload_n 1 dX7_rateKept_0 rfl rfl ?_
  refine e_dup 2 dX7_rateKept_1 rfl rfl ?_
  refine e_getl 5 dX7_rateKept_2 lf_X7_73 rfl rfl rfl (by decide) htr ?_
  refine e_ldc2_w 8 lc_X7_317 dX7_rateKept_5 rfl ?_
  refine e_ladd 9 dX7_rateKept_8 rfl ?_
  refine e_putl 12 dX7_rateKept_9 lf_X7_73 rfl rfl rfl rfl rfl (by decide) ?_
  refine e_iconst 13 hic_2 dX7_rateKept_12 rfl ?_
  refine e_aload_n 14 dX7_rateKept_13 rfl rfl ?_
  refine e_iload_n 15 dX7_rateKept_14 rfl rfl ?_
  refine c_Vi 18 (ci := 7) dX7_rateKept_15 (k_X7_rateOver G hr (hX.tr zTrd.p) hF hw9) lm_X7_287 zi_yX7_rateOver zs_yX7_rateOver rfl (by first | rfl | assumption) (by first | decide | omega) rfl rfl rfl (Nat.le_of_ble_eq_true rfl) (Nat.le_of_ble_eq_true rfl) (Nat.le_of_ble_eq_true rfl) (by exact Nat.le_refl _) (by exact Nat.le_refl _) ?_
  rintro v1 a1 b1 c1 ⟨rfl, rfl, ht1, rfl⟩
  refine e_imul 19 dX7_rateKept_18 rfl ?_
  refine e_ireturn .int dX7_rateKept_19 rfl rfl ?_
  exact ⟨_, rfl, rfl, rfl, (by have h9 := zTrd.p.t ht1; rw [lN_a3] at h9; exact h9), rfl⟩

set_option maxHeartbeats 4000000 in
set_option maxRecDepth 100000 in
theorem k_X7_rateStayed (G : zG) {D E : Nat} {Λ : zLd} {late : Nat} {tr : Int64} {t : zTx} {m : zMo} {im : Nat → Nat × zMo} {l : zLt} {r : zWr} {mi : zFi} {ml : zFl} {mr : zFr} (hr : zRf mr D E) (hX : zX mi ml D Λ late tr t m im l r) (hF : zWf Λ late t m im l r) {w : Nat} (hw9 : w < Λ 0 1) : zMet G 3 yX7_rateStayed cX7_rateStayed 2 (some .int) [.ref 0, .int (nI w)] 238 mi ml mr 238 (zPi fun x a b c => x = sRateV Λ m w 5 ∧ a = mi ∧ zTrd ml b (tr + lN (sRateT 5)) ∧ c = mr) := by
  obtain ⟨hΛ, hlate, htr, ht, hm, him, hl, hw, hn72⟩ := id hX
  obtain ⟨hW, hla30, htw, hmw, himw, hlw, hrw⟩ := id hF
  have hP3 := hW.1.1
  have hW5 := hW.1.2.1
  have hy99 := hmw.1
  have hD9 := hr.Dl
  refine z_intro ([.ref 0, .int (nI w)]) (by decide) rfl (Nat.le_of_ble_eq_true rfl) ?_
  refine e_aload_n 1 dX7_rateStayed_0 rfl rfl ?_
  refine e_dup 2 dX7_rateStayed_1 rfl rfl ?_
  refine e_getl 5 dX7_rateStayed_2 lf_X7_73 rfl rfl rfl (by decide) htr ?_
  refine e_ldc2_w 8 lc_X7_319 dX7_rateStayed_5 rfl ?_
  refine e_ladd 9 dX7_rateStayed_8 rfl ?_
  refine e_putl 12 dX7_rateStayed_9 lf_X7_73 rfl rfl rfl rfl rfl (by decide) ?_
  refine e_aload_n 13 dX7_rateStayed_12 rfl rfl ?_
  refine e_iload_n 14 dX7_rateStayed_13 rfl rfl ?_
  refine c_Vi 17 (ci := 7) dX7_rateStayed_14 (k_X7_rateWord G hr (hX.tr zTrd.p) hF hw9) lm_X7_278 zi_yX7_rateWord zs_yX7_rateWord rfl (by first | rfl | assumption) (by first | decide | omega) rfl rfl rfl (Nat.le_of_ble_eq_true rfl) (Nat.le_of_ble_eq_true rfl) (Nat.le_of_ble_eq_true rfl) (by exact Nat.le_refl _) (by exact Nat.le_refl _) ?_
  rintro v1 a1 b1 c1 ⟨rfl, rfl, ht1, rfl⟩
  refine e_aload_n 18 dX7_rateStayed_17 rfl rfl ?_
  refine e_getr 21 dX7_rateStayed_18 lf_X7_62 rfl rfl rfl (by decide) hr.land ?_
  refine e_getr 24 dX7_rateStayed_21 lf_X7_129 rfl rfl hr.dD.k0 hr.dD.l0 hr.dD.r2 ?_
  refine e_iload_n 25 dX7_rateStayed_24 rfl rfl ?_
  refine e_iald 26 dX7_rateStayed_25 rfl hr.dD.k2 (hr.dD.l (j := 2) (by decide)) rfl (by rw [hr.dD.n2]; omega) (hΛ.2.2 w hw9).1 ?_
  first | refine e_iaddN 27 dX7_rateStayed_26 rfl ?_ | refine e_iadd 27 dX7_rateStayed_26 rfl ?_
  refine e_ireturn .int dX7_rateStayed_27 rfl rfl ?_
  exact ⟨_, rfl, rfl, rfl, (by have h9 := zTrd.p.t ht1; rw [lN_a3] at h9; exact h9), rfl⟩

set_option maxHeartbeats 4000000 in
set_option maxRecDepth 100000 in
theorem k_X7_rate_0 (G : zG) {D E : Nat} {Λ : zLd} {late : Nat} {tr : Int64} {t : zTx} {m : zMo} {im : Nat → Nat × zMo} {l : zLt} {r : zWr} {mi : zFi} {ml : zFl} {mr : zFr} (hr : zRf mr D E) (hX : zX mi ml D Λ late tr t m im l r) (hF : zWf Λ late t m im l r) {w : Int32} : zMet G 6 yX7_rate cX7_rate 3 (some .int) [.ref 0, .int (nI 0), .int w] 238 mi ml mr 238 (zPi fun x a b c => x = sRate Λ m (nI 0) w ∧ a = mi ∧ zTrd ml b (sRateTr Λ tr (nI 0) w) ∧ c = mr) := by
  obtain ⟨hΛ, hlate, htr, ht, hm, him, hl, hw, hn72⟩ := id hX
  obtain ⟨hW, hla30, htw, hmw, himw, hlw, hrw⟩ := id hF
  have hP3 := hW.1.1
  have hW5 := hW.1.2.1
  have hy99 := hmw.1
  have hD9 := hr.Dl
  refine z_intro ([.ref 0, .int (nI 0), .int w]) (by decide) rfl (Nat.le_of_ble_eq_true rfl) ?_
  refine e_aload_n 1 dX7_rate_0 rfl rfl ?_
  refine e_iload_n 2 dX7_rate_1 rfl rfl ?_
  refine c_Vqi 5 (ci := 7) dX7_rate_2 (k_X7_isWord G hr hΛ hW) lm_X7_126 zi_yX7_isWord zs_yX7_isWord rfl (by first | rfl | assumption) (by first | decide | omega) rfl rfl rfl (Nat.le_of_ble_eq_true rfl) (Nat.le_of_ble_eq_true rfl) (Nat.le_of_ble_eq_true rfl) (by exact Nat.le_refl _) (by exact Nat.le_refl _) ?_
  refine e_if_ne 11 8 dX7_rate_5 (by decide) rfl (fun h5 => ?_) (fun h5 => ?_)
  · have h5 := zB_1 h5
    obtain ⟨ew, hw9⟩ := h5.nat
    refine e_iload_n 12 dX7_rate_11 rfl rfl ?_
    refine e_tableIn 52 (off := 40) dX7_rate_12 (by decide) (by decide) (by decide) (by decide) ?_
    refine e_aload_n 53 dX7_rate_52 rfl rfl ?_
    refine e_iload_n 54 dX7_rate_53 rfl rfl ?_
    rw [ew]
    refine c_Vi 57 (ci := 7) dX7_rate_54 (k_X7_rateWord G hr hX hF hw9) lm_X7_278 zi_yX7_rateWord zs_yX7_rateWord rfl (by first | rfl | assumption) (by first | decide | omega) rfl rfl rfl (Nat.le_of_ble_eq_true rfl) (Nat.le_of_ble_eq_true rfl) (Nat.le_of_ble_eq_true rfl) (by exact Nat.le_refl _) (by exact Nat.le_refl _) ?_
    rintro v1 a1 b1 c1 ⟨rfl, rfl, ht1, rfl⟩
    refine e_ireturn .int dX7_rate_57 rfl rfl ?_
    rw [← ew]
    have hk6 : sRateOk Λ (nI 0) w := ⟨h5, (vN_nI (by decide)).mpr (by decide)⟩
    have e1 : sRate Λ m (nI 0) w = sRateV Λ m (zK w) 0 := iteP hk6
    have e2 : sRateTr Λ tr (nI 0) w = tr + lN (sRateT 0) := iteP hk6
    rw [e1, e2]
    exact ⟨_, rfl, rfl, rfl, ht1, rfl⟩
  · have h5 := zB_0 h5
    refine e_ldc 10 lc_X7_255 dX7_rate_8 rfl ?_
    refine e_ireturn .int dX7_rate_10 rfl rfl ?_
    rw [show ∀ x, sRate Λ m x w = -1000000 from fun x => iteN (fun q => h5 q.1), show ∀ x, sRateTr Λ tr x w = tr from fun x => iteN (fun q => h5 q.1)]
    exact ⟨_, rfl, rfl, rfl, ⟨htr, fun _ _ => rfl⟩, rfl⟩

set_option maxHeartbeats 4000000 in
set_option maxRecDepth 100000 in
theorem k_X7_rate_1 (G : zG) {D E : Nat} {Λ : zLd} {late : Nat} {tr : Int64} {t : zTx} {m : zMo} {im : Nat → Nat × zMo} {l : zLt} {r : zWr} {mi : zFi} {ml : zFl} {mr : zFr} (hr : zRf mr D E) (hX : zX mi ml D Λ late tr t m im l r) (hF : zWf Λ late t m im l r) {w : Int32} : zMet G 6 yX7_rate cX7_rate 3 (some .int) [.ref 0, .int (nI 1), .int w] 238 mi ml mr 238 (zPi fun x a b c => x = sRate Λ m (nI 1) w ∧ a = mi ∧ zTrd ml b (sRateTr Λ tr (nI 1) w) ∧ c = mr) := by
  obtain ⟨hΛ, hlate, htr, ht, hm, him, hl, hw, hn72⟩ := id hX
  obtain ⟨hW, hla30, htw, hmw, himw, hlw, hrw⟩ := id hF
  have hP3 := hW.1.1
  have hW5 := hW.1.2.1
  have hy99 := hmw.1
  have hD9 := hr.Dl
  refine z_intro ([.ref 0, .int (nI 1), .int w]) (by decide) rfl (Nat.le_of_ble_eq_true rfl) ?_
  refine e_aload_n 1 dX7_rate_0 rfl rfl ?_
  refine e_iload_n 2 dX7_rate_1 rfl rfl ?_
  refine c_Vqi 5 (ci := 7) dX7_rate_2 (k_X7_isWord G hr hΛ hW) lm_X7_126 zi_yX7_isWord zs_yX7_isWord rfl (by first | rfl | assumption) (by first | decide | omega) rfl rfl rfl (Nat.le_of_ble_eq_true rfl) (Nat.le_of_ble_eq_true rfl) (Nat.le_of_ble_eq_true rfl) (by exact Nat.le_refl _) (by exact Nat.le_refl _) ?_
  refine e_if_ne 11 8 dX7_rate_5 (by decide) rfl (fun h5 => ?_) (fun h5 => ?_)
  · have h5 := zB_1 h5
    obtain ⟨ew, hw9⟩ := h5.nat
    refine e_iload_n 12 dX7_rate_11 rfl rfl ?_
    refine e_tableIn 58 (off := 46) dX7_rate_12 (by decide) (by decide) (by decide) (by decide) ?_
    refine e_aload_n 59 dX7_rate_58 rfl rfl ?_
    refine e_iload_n 60 dX7_rate_59 rfl rfl ?_
    rw [ew]
    refine c_Vi 63 (ci := 7) dX7_rate_60 (k_X7_rateNew G hr hX hF hw9) lm_X7_281 zi_yX7_rateNew zs_yX7_rateNew rfl (by first | rfl | assumption) (by first | decide | omega) rfl rfl rfl (Nat.le_of_ble_eq_true rfl) (Nat.le_of_ble_eq_true rfl) (Nat.le_of_ble_eq_true rfl) (by exact Nat.le_refl _) (by exact Nat.le_refl _) ?_
    rintro v1 a1 b1 c1 ⟨rfl, rfl, ht1, rfl⟩
    refine e_ireturn .int dX7_rate_63 rfl rfl ?_
    rw [← ew]
    have hk6 : sRateOk Λ (nI 1) w := ⟨h5, (vN_nI (by decide)).mpr (by decide)⟩
    have e1 : sRate Λ m (nI 1) w = sRateV Λ m (zK w) 1 := iteP hk6
    have e2 : sRateTr Λ tr (nI 1) w = tr + lN (sRateT 1) := iteP hk6
    rw [e1, e2]
    exact ⟨_, rfl, rfl, rfl, ht1, rfl⟩
  · have h5 := zB_0 h5
    refine e_ldc 10 lc_X7_255 dX7_rate_8 rfl ?_
    refine e_ireturn .int dX7_rate_10 rfl rfl ?_
    rw [show ∀ x, sRate Λ m x w = -1000000 from fun x => iteN (fun q => h5 q.1), show ∀ x, sRateTr Λ tr x w = tr from fun x => iteN (fun q => h5 q.1)]
    exact ⟨_, rfl, rfl, rfl, ⟨htr, fun _ _ => rfl⟩, rfl⟩

set_option maxHeartbeats 4000000 in
set_option maxRecDepth 100000 in
theorem k_X7_rate_2 (G : zG) {D E : Nat} {Λ : zLd} {late : Nat} {tr : Int64} {t : zTx} {m : zMo} {im : Nat → Nat × zMo} {l : zLt} {r : zWr} {mi : zFi} {ml : zFl} {mr : zFr} (hr : zRf mr D E) (hX : zX mi ml D Λ late tr t m im l r) (hF : zWf Λ late t m im l r) {w : Int32} : zMet G 6 yX7_rate cX7_rate 3 (some .int) [.ref 0, .int (nI 2), .int w] 238 mi ml mr 238 (zPi fun x a b c => x = sRate Λ m (nI 2) w ∧ a = mi ∧ zTrd ml b (sRateTr Λ tr (nI 2) w) ∧ c = mr) := by
  obtain ⟨hΛ, hlate, htr, ht, hm, him, hl, hw, hn72⟩ := id hX
  obtain ⟨hW, hla30, htw, hmw, himw, hlw, hrw⟩ := id hF
  have hP3 := hW.1.1
  have hW5 := hW.1.2.1
  have hy99 := hmw.1
  have hD9 := hr.Dl
  refine z_intro ([.ref 0, .int (nI 2), .int w]) (by decide) rfl (Nat.le_of_ble_eq_true rfl) ?_
  refine e_aload_n 1 dX7_rate_0 rfl rfl ?_
  refine e_iload_n 2 dX7_rate_1 rfl rfl ?_
  refine c_Vqi 5 (ci := 7) dX7_rate_2 (k_X7_isWord G hr hΛ hW) lm_X7_126 zi_yX7_isWord zs_yX7_isWord rfl (by first | rfl | assumption) (by first | decide | omega) rfl rfl rfl (Nat.le_of_ble_eq_true rfl) (Nat.le_of_ble_eq_true rfl) (Nat.le_of_ble_eq_true rfl) (by exact Nat.le_refl _) (by exact Nat.le_refl _) ?_
  refine e_if_ne 11 8 dX7_rate_5 (by decide) rfl (fun h5 => ?_) (fun h5 => ?_)
  · have h5 := zB_1 h5
    obtain ⟨ew, hw9⟩ := h5.nat
    refine e_iload_n 12 dX7_rate_11 rfl rfl ?_
    refine e_tableIn 64 (off := 52) dX7_rate_12 (by decide) (by decide) (by decide) (by decide) ?_
    refine e_aload_n 65 dX7_rate_64 rfl rfl ?_
    refine e_iload_n 66 dX7_rate_65 rfl rfl ?_
    rw [ew]
    refine c_Vi 69 (ci := 7) dX7_rate_66 (k_X7_rateHad G hr hX hF hw9) lm_X7_284 zi_yX7_rateHad zs_yX7_rateHad rfl (by first | rfl | assumption) (by first | decide | omega) rfl rfl rfl (Nat.le_of_ble_eq_true rfl) (Nat.le_of_ble_eq_true rfl) (Nat.le_of_ble_eq_true rfl) (by exact Nat.le_refl _) (by exact Nat.le_refl _) ?_
    rintro v1 a1 b1 c1 ⟨rfl, rfl, ht1, rfl⟩
    refine e_ireturn .int dX7_rate_69 rfl rfl ?_
    rw [← ew]
    have hk6 : sRateOk Λ (nI 2) w := ⟨h5, (vN_nI (by decide)).mpr (by decide)⟩
    have e1 : sRate Λ m (nI 2) w = sRateV Λ m (zK w) 2 := iteP hk6
    have e2 : sRateTr Λ tr (nI 2) w = tr + lN (sRateT 2) := iteP hk6
    rw [e1, e2]
    exact ⟨_, rfl, rfl, rfl, ht1, rfl⟩
  · have h5 := zB_0 h5
    refine e_ldc 10 lc_X7_255 dX7_rate_8 rfl ?_
    refine e_ireturn .int dX7_rate_10 rfl rfl ?_
    rw [show ∀ x, sRate Λ m x w = -1000000 from fun x => iteN (fun q => h5 q.1), show ∀ x, sRateTr Λ tr x w = tr from fun x => iteN (fun q => h5 q.1)]
    exact ⟨_, rfl, rfl, rfl, ⟨htr, fun _ _ => rfl⟩, rfl⟩

set_option maxHeartbeats 4000000 in
set_option maxRecDepth 100000 in
theorem k_X7_rate_3 (G : zG) {D E : Nat} {Λ : zLd} {late : Nat} {tr : Int64} {t : zTx} {m : zMo} {im : Nat → Nat × zMo} {l : zLt} {r : zWr} {mi : zFi} {ml : zFl} {mr : zFr} (hr : zRf mr D E) (hX : zX mi ml D Λ late tr t m im l r) (hF : zWf Λ late t m im l r) {w : Int32} : zMet G 6 yX7_rate cX7_rate 3 (some .int) [.ref 0, .int (nI 3), .int w] 238 mi ml mr 238 (zPi fun x a b c => x = sRate Λ m (nI 3) w ∧ a = mi ∧ zTrd ml b (sRateTr Λ tr (nI 3) w) ∧ c = mr) := by
  obtain ⟨hΛ, hlate, htr, ht, hm, him, hl, hw, hn72⟩ := id hX
  obtain ⟨hW, hla30, htw, hmw, himw, hlw, hrw⟩ := id hF
  have hP3 := hW.1.1
  have hW5 := hW.1.2.1
  have hy99 := hmw.1
  have hD9 := hr.Dl
  refine z_intro ([.ref 0, .int (nI 3), .int w]) (by decide) rfl (Nat.le_of_ble_eq_true rfl) ?_
  refine e_aload_n 1 dX7_rate_0 rfl rfl ?_
  refine e_iload_n 2 dX7_rate_1 rfl rfl ?_
  refine c_Vqi 5 (ci := 7) dX7_rate_2 (k_X7_isWord G hr hΛ hW) lm_X7_126 zi_yX7_isWord zs_yX7_isWord rfl (by first | rfl | assumption) (by first | decide | omega) rfl rfl rfl (Nat.le_of_ble_eq_true rfl) (Nat.le_of_ble_eq_true rfl) (Nat.le_of_ble_eq_true rfl) (by exact Nat.le_refl _) (by exact Nat.le_refl _) ?_
  refine e_if_ne 11 8 dX7_rate_5 (by decide) rfl (fun h5 => ?_) (fun h5 => ?_)
  · have h5 := zB_1 h5
    obtain ⟨ew, hw9⟩ := h5.nat
    refine e_iload_n 12 dX7_rate_11 rfl rfl ?_
    refine e_tableIn 70 (off := 58) dX7_rate_12 (by decide) (by decide) (by decide) (by decide) ?_
    refine e_aload_n 71 dX7_rate_70 rfl rfl ?_
    refine e_iload_n 72 dX7_rate_71 rfl rfl ?_
    rw [ew]
    refine c_Vi 75 (ci := 7) dX7_rate_72 (k_X7_rateOver G hr hX hF hw9) lm_X7_287 zi_yX7_rateOver zs_yX7_rateOver rfl (by first | rfl | assumption) (by first | decide | omega) rfl rfl rfl (Nat.le_of_ble_eq_true rfl) (Nat.le_of_ble_eq_true rfl) (Nat.le_of_ble_eq_true rfl) (by exact Nat.le_refl _) (by exact Nat.le_refl _) ?_
    rintro v1 a1 b1 c1 ⟨rfl, rfl, ht1, rfl⟩
    refine e_ireturn .int dX7_rate_75 rfl rfl ?_
    rw [← ew]
    have hk6 : sRateOk Λ (nI 3) w := ⟨h5, (vN_nI (by decide)).mpr (by decide)⟩
    have e1 : sRate Λ m (nI 3) w = sRateV Λ m (zK w) 3 := iteP hk6
    have e2 : sRateTr Λ tr (nI 3) w = tr + lN (sRateT 3) := iteP hk6
    rw [e1, e2]
    exact ⟨_, rfl, rfl, rfl, ht1, rfl⟩
  · have h5 := zB_0 h5
    refine e_ldc 10 lc_X7_255 dX7_rate_8 rfl ?_
    refine e_ireturn .int dX7_rate_10 rfl rfl ?_
    rw [show ∀ x, sRate Λ m x w = -1000000 from fun x => iteN (fun q => h5 q.1), show ∀ x, sRateTr Λ tr x w = tr from fun x => iteN (fun q => h5 q.1)]
    exact ⟨_, rfl, rfl, rfl, ⟨htr, fun _ _ => rfl⟩, rfl⟩

set_option maxHeartbeats 4000000 in
set_option maxRecDepth 100000 in
theorem k_X7_rate_4 (G : zG) {D E : Nat} {Λ : zLd} {late : Nat} {tr : Int64} {t : zTx} {m : zMo} {im : Nat → Nat × zMo} {l : zLt} {r : zWr} {mi : zFi} {ml : zFl} {mr : zFr} (hr : zRf mr D E) (hX : zX mi ml D Λ late tr t m im l r) (hF : zWf Λ late t m im l r) {w : Int32} : zMet G 6 yX7_rate cX7_rate 3 (some .int) [.ref 0, .int (nI 4), .int w] 238 mi ml mr 238 (zPi fun x a b c => x = sRate Λ m (nI 4) w ∧ a = mi ∧ zTrd ml b (sRateTr Λ tr (nI 4) w) ∧ c = mr) := by
  obtain ⟨hΛ, hlate, htr, ht, hm, him, hl, hw, hn72⟩ := id hX
  obtain ⟨hW, hla30, htw, hmw, himw, hlw, hrw⟩ := id hF
  have hP3 := hW.1.1
  have hW5 := hW.1.2.1
  have hy99 := hmw.1
  have hD9 := hr.Dl
  refine z_intro ([.ref 0, .int (nI 4), .int w]) (by decide) rfl (Nat.le_of_ble_eq_true rfl) ?_
  refine e_aload_n 1 dX7_rate_0 rfl rfl ?_
  refine e_iload_n 2 dX7_rate_1 rfl rfl ?_
  refine c_Vqi 5 (ci := 7) dX7_rate_2 (k_X7_isWord G hr hΛ hW) lm_X7_126 zi_yX7_isWord zs_yX7_isWord rfl (by first | rfl | assumption) (by first | decide | omega) rfl rfl rfl (Nat.le_of_ble_eq_true rfl) (Nat.le_of_ble_eq_true rfl) (Nat.le_of_ble_eq_true rfl) (by exact Nat.le_refl _) (by exact Nat.le_refl _) ?_
  refine e_if_ne 11 8 dX7_rate_5 (by decide) rfl (fun h5 => ?_) (fun h5 => ?_)
  · have h5 := zB_1 h5
    obtain ⟨ew, hw9⟩ := h5.nat
    refine e_iload_n 12 dX7_rate_11 rfl rfl ?_
    refine e_tableIn 76 (off := 64) dX7_rate_12 (by decide) (by decide) (by decide) (by decide) ?_
    refine e_aload_n 77 dX7_rate_76 rfl rfl ?_
    refine e_iload_n 78 dX7_rate_77 rfl rfl ?_
    rw [ew]
    refine c_Vi 81 (ci := 7) dX7_rate_78 (k_X7_rateKept G hr hX hF hw9) lm_X7_290 zi_yX7_rateKept zs_yX7_rateKept rfl (by first | rfl | assumption) (by first | decide | omega) rfl rfl rfl (Nat.le_of_ble_eq_true rfl) (Nat.le_of_ble_eq_true rfl) (Nat.le_of_ble_eq_true rfl) (by exact Nat.le_refl _) (by exact Nat.le_refl _) ?_
    rintro v1 a1 b1 c1 ⟨rfl, rfl, ht1, rfl⟩
    refine e_ireturn .int dX7_rate_81 rfl rfl ?_
    rw [← ew]
    have hk6 : sRateOk Λ (nI 4) w := ⟨h5, (vN_nI (by decide)).mpr (by decide)⟩
    have e1 : sRate Λ m (nI 4) w = sRateV Λ m (zK w) 4 := iteP hk6
    have e2 : sRateTr Λ tr (nI 4) w = tr + lN (sRateT 4) := iteP hk6
    rw [e1, e2]
    exact ⟨_, rfl, rfl, rfl, ht1, rfl⟩
  · have h5 := zB_0 h5
    refine e_ldc 10 lc_X7_255 dX7_rate_8 rfl ?_
    refine e_ireturn .int dX7_rate_10 rfl rfl ?_
    rw [show ∀ x, sRate Λ m x w = -1000000 from fun x => iteN (fun q => h5 q.1), show ∀ x, sRateTr Λ tr x w = tr from fun x => iteN (fun q => h5 q.1)]
    exact ⟨_, rfl, rfl, rfl, ⟨htr, fun _ _ => rfl⟩, rfl⟩

set_option maxHeartbeats 4000000 in
set_option maxRecDepth 100000 in
theorem k_X7_rate_5 (G : zG) {D E : Nat} {Λ : zLd} {late : Nat} {tr : Int64} {t : zTx} {m : zMo} {im : Nat → Nat × zMo} {l : zLt} {r : zWr} {mi : zFi} {ml : zFl} {mr : zFr} (hr : zRf mr D E) (hX : zX mi ml D Λ late tr t m im l r) (hF : zWf Λ late t m im l r) {w : Int32} : zMet G 6 yX7_rate cX7_rate 3 (some .int) [.ref 0, .int (nI 5), .int w] 238 mi ml mr 238 (zPi fun x a b c => x = sRate Λ m (nI 5) w ∧ a = mi ∧ zTrd ml b (sRateTr Λ tr (nI 5) w) ∧ c = mr) := by
  obtain ⟨hΛ, hlate, htr, ht, hm, him, hl, hw, hn72⟩ := id hX
  obtain ⟨hW, hla30, htw, hmw, himw, hlw, hrw⟩ := id hF
  have hP3 := hW.1.1
  have hW5 := hW.1.2.1
  have hy99 := hmw.1
  have hD9 := hr.Dl
  refine z_intro ([.ref 0, .int (nI 5), .int w]) (by decide) rfl (Nat.le_of_ble_eq_true rfl) ?_
  refine e_aload_n 1 dX7_rate_0 rfl rfl ?_
  refine e_iload_n 2 dX7_rate_1 rfl rfl ?_
  refine c_Vqi 5 (ci := 7) dX7_rate_2 (k_X7_isWord G hr hΛ hW) lm_X7_126 zi_yX7_isWord zs_yX7_isWord rfl (by first | rfl | assumption) (by first | decide | omega) rfl rfl rfl (Nat.le_of_ble_eq_true rfl) (Nat.le_of_ble_eq_true rfl) (Nat.le_of_ble_eq_true rfl) (by exact Nat.le_refl _) (by exact Nat.le_refl _) ?_
  refine e_if_ne 11 8 dX7_rate_5 (by decide) rfl (fun h5 => ?_) (fun h5 => ?_)
  · have h5 := zB_1 h5
    obtain ⟨ew, hw9⟩ := h5.nat
    refine e_iload_n 12 dX7_rate_11 rfl rfl ?_
    refine e_tableIn 82 (off := 70) dX7_rate_12 (by decide) (by decide) (by decide) (by decide) ?_
    refine e_aload_n 83 dX7_rate_82 rfl rfl ?_
    refine e_iload_n 84 dX7_rate_83 rfl rfl ?_
    rw [ew]
    refine c_Vi 87 (ci := 7) dX7_rate_84 (k_X7_rateStayed G hr hX hF hw9) lm_X7_293 zi_yX7_rateStayed zs_yX7_rateStayed rfl (by first | rfl | assumption) (by first | decide | omega) rfl rfl rfl (Nat.le_of_ble_eq_true rfl) (Nat.le_of_ble_eq_true rfl) (Nat.le_of_ble_eq_true rfl) (by exact Nat.le_refl _) (by exact Nat.le_refl _) ?_
    rintro v1 a1 b1 c1 ⟨rfl, rfl, ht1, rfl⟩
    refine e_ireturn .int dX7_rate_87 rfl rfl ?_
    rw [← ew]
    have hk6 : sRateOk Λ (nI 5) w := ⟨h5, (vN_nI (by decide)).mpr (by decide)⟩
    have e1 : sRate Λ m (nI 5) w = sRateV Λ m (zK w) 5 := iteP hk6
    have e2 : sRateTr Λ tr (nI 5) w = tr + lN (sRateT 5) := iteP hk6
    rw [e1, e2]
    exact ⟨_, rfl, rfl, rfl, ht1, rfl⟩
  · have h5 := zB_0 h5
    refine e_ldc 10 lc_X7_255 dX7_rate_8 rfl ?_
    refine e_ireturn .int dX7_rate_10 rfl rfl ?_
    rw [show ∀ x, sRate Λ m x w = -1000000 from fun x => iteN (fun q => h5 q.1), show ∀ x, sRateTr Λ tr x w = tr from fun x => iteN (fun q => h5 q.1)]
    exact ⟨_, rfl, rfl, rfl, ⟨htr, fun _ _ => rfl⟩, rfl⟩

set_option maxHeartbeats 4000000 in
set_option maxRecDepth 100000 in
theorem k_X7_rate_d (G : zG) {D E : Nat} {Λ : zLd} {late : Nat} {tr : Int64} {t : zTx} {m : zMo} {im : Nat → Nat × zMo} {l : zLt} {r : zWr} {mi : zFi} {ml : zFl} {mr : zFr} (hr : zRf mr D E) (hX : zX mi ml D Λ late tr t m im l r) (hF : zWf Λ late t m im l r) {w kind : Int32} (hbad : ¬ vN kind 6) : zMet G 6 yX7_rate cX7_rate 3 (some .int) [.ref 0, .int kind, .int w] 238 mi ml mr 238 (zPi fun x a b c => x = sRate Λ m kind w ∧ a = mi ∧ zTrd ml b (sRateTr Λ tr kind w) ∧ c = mr) := by
  obtain ⟨hΛ, hlate, htr, ht, hm, him, hl, hw, hn72⟩ := id hX
  obtain ⟨hW, hla30, htw, hmw, himw, hlw, hrw⟩ := id hF
  have hP3 := hW.1.1
  have hW5 := hW.1.2.1
  have hy99 := hmw.1
  have hD9 := hr.Dl
  refine z_intro ([.ref 0, .int kind, .int w]) (by decide) rfl (Nat.le_of_ble_eq_true rfl) ?_
  refine e_aload_n 1 dX7_rate_0 rfl rfl ?_
  refine e_iload_n 2 dX7_rate_1 rfl rfl ?_
  refine c_Vqi 5 (ci := 7) dX7_rate_2 (k_X7_isWord G hr hΛ hW) lm_X7_126 zi_yX7_isWord zs_yX7_isWord rfl (by first | rfl | assumption) (by first | decide | omega) rfl rfl rfl (Nat.le_of_ble_eq_true rfl) (Nat.le_of_ble_eq_true rfl) (Nat.le_of_ble_eq_true rfl) (by exact Nat.le_refl _) (by exact Nat.le_refl _) ?_
  refine e_if_ne 11 8 dX7_rate_5 (by decide) rfl (fun h5 => ?_) (fun h5 => ?_)
  · have h5 := zB_1 h5
    obtain ⟨ew, hw9⟩ := h5.nat
    refine e_iload_n 12 dX7_rate_11 rfl rfl ?_
    refine e_tableOut 88 dX7_rate_12 (by have := vN_out hbad; omega) (by decide) ?_
    refine e_ldc 90 lc_X7_255 dX7_rate_88 rfl ?_
    refine e_ireturn .int dX7_rate_90 rfl rfl ?_
    have e1 : sRate Λ m kind w = -1000000 := iteN (fun q => hbad q.2)
    have e2 : sRateTr Λ tr kind w = tr := iteN (fun q => hbad q.2)
    rw [e1, e2]
    exact ⟨_, rfl, rfl, rfl, ⟨htr, fun _ _ => rfl⟩, rfl⟩
  · have h5 := zB_0 h5
    refine e_ldc 10 lc_X7_255 dX7_rate_8 rfl ?_
    refine e_ireturn .int dX7_rate_10 rfl rfl ?_
    rw [show ∀ x, sRate Λ m x w = -1000000 from fun x => iteN (fun q => h5 q.1), show ∀ x, sRateTr Λ tr x w = tr from fun x => iteN (fun q => h5 q.1)]
    exact ⟨_, rfl, rfl, rfl, ⟨htr, fun _ _ => rfl⟩, rfl⟩

set_option maxHeartbeats 4000000 in
set_option maxRecDepth 100000 in
theorem k_X7_rate (G : zG) {D E : Nat} {Λ : zLd} {late : Nat} {tr : Int64} {t : zTx} {m : zMo} {im : Nat → Nat × zMo} {l : zLt} {r : zWr} {mi : zFi} {ml : zFl} {mr : zFr} (hr : zRf mr D E) (hX : zX mi ml D Λ late tr t m im l r) (hF : zWf Λ late t m im l r) {w kind : Int32} : zMet G 6 yX7_rate cX7_rate 3 (some .int) [.ref 0, .int kind, .int w] 238 mi ml mr 238 (zPi fun x a b c => x = sRate Λ m kind w ∧ a = mi ∧ zTrd ml b (sRateTr Λ tr kind w) ∧ c = mr) := by
  by_cases h : vN kind 6
  · obtain ⟨e, hk⟩ := h.nat
    rw [e]
    have h5 : zK kind = 0 ∨ zK kind = 1 ∨ zK kind = 2 ∨ zK kind = 3 ∨ zK kind = 4 ∨ zK kind = 5 := by omega
    rcases h5 with q | q | q | q | q | q
    · rw [q]; exact k_X7_rate_0 G hr hX hF
    · rw [q]; exact k_X7_rate_1 G hr hX hF
    · rw [q]; exact k_X7_rate_2 G hr hX hF
    · rw [q]; exact k_X7_rate_3 G hr hX hF
    · rw [q]; exact k_X7_rate_4 G hr hX hF
    · rw [q]; exact k_X7_rate_5 G hr hX hF
  · exact k_X7_rate_d G hr hX hF h

