def sLaw (Λ : zLd) (late : Nat) (what : Int32) : Int32 := @ite _ (vN what 5) (vN_dec _ _) (nI (if zK what = 4 then late else Λ 0 (2 + zK what))) (-1)
def sWord (Λ : zLd) (y : Nat) (w what : Int32) : Int32 := @ite _ (vN w (Λ 0 1)) (vN_dec _ _) (@ite _ (vN what 5) (vN_dec _ _) (nI (if zK what = 4 then (if Λ 3 (zK w) ≤ y then 1 else 0) else Λ (2 + zK what) (zK w))) (-1)) (-1)
def sNear (Λ : zLd) (p q : Int32) : Int32 := @ite _ (vN p (Λ 0 0)) (vN_dec _ _) (@ite _ (vN q (Λ 0 0)) (vN_dec _ _) (if zK p = zK q then -1 else nI (Λ 1 (3 * zK p + zK q))) (-1)) (-1)
theorem iteP {α : Type} {c : Prop} {d : Decidable c} {a b : α} (h : c) : @ite _ c d a b = a := if_pos h
theorem iteN {α : Type} {c : Prop} {d : Decidable c} {a b : α} (h : ¬ c) : @ite _ c d a b = b := if_neg h
theorem vN_out {v : Int32} {n : Nat} (h : ¬ vN v n) : v.toInt < 0 ∨ (n : Int) - 1 < v.toInt := by
  unfold vN at h
  omega
set_option maxHeartbeats 4000000 in
set_option maxRecDepth 100000 in
theorem k_X7_law_0 (G : zG) {D E : Nat} {Λ : zLd} {late : Nat} {tr : Int64} {t : zTx} {m : zMo} {im : Nat → Nat × zMo} {l : zLt} {r : zWr} {mi : zFi} {ml : zFl} {mr : zFr} (hr : zRf mr D E) (hX : zX mi ml D Λ late tr t m im l r) (hF : zWf Λ late t m im l r)  : zMet G 0 yX7_law cX7_law 2 (some .int) [.ref 0, .int (nI 0)] 238 mi ml mr 238 (zPq (some (.int (sLaw Λ late (nI 0)))) mi ml mr) := by
  obtain ⟨hΛ, hlate, htr, ht, hm, him, hl, hw, hn72⟩ := id hX
  obtain ⟨hW, hla30, htw, hmw, himw, hlw, hrw⟩ := id hF
  have hP3 := hW.1.1
  have hW5 := hW.1.2.1
  have hy99 := hmw.1
  have hD9 := hr.Dl
  refine z_intro ([.ref 0, .int (nI 0)]) (by decide) rfl (Nat.le_of_ble_eq_true rfl) ?_
  refine e_iload_n 1 dX7_law_0 rfl rfl ?_
  refine e_tableIn 36 (off := 35) dX7_law_1 (by decide) (by decide) (by decide) (by decide) ?_
  refine e_aload_n 37 dX7_law_36 rfl rfl ?_
  refine e_getr 40 dX7_law_37 lf_X7_62 rfl rfl rfl (by decide) hr.land ?_
  refine e_geti 43 dX7_law_40 lf_X7_106 rfl rfl hr.dD.k0 hr.dD.l0 (hΛ.f2) ?_
  refine e_ireturn .int dX7_law_43 rfl rfl ?_
  exact ⟨rfl, rfl, rfl, rfl⟩

set_option maxHeartbeats 4000000 in
set_option maxRecDepth 100000 in
theorem k_X7_law_1 (G : zG) {D E : Nat} {Λ : zLd} {late : Nat} {tr : Int64} {t : zTx} {m : zMo} {im : Nat → Nat × zMo} {l : zLt} {r : zWr} {mi : zFi} {ml : zFl} {mr : zFr} (hr : zRf mr D E) (hX : zX mi ml D Λ late tr t m im l r) (hF : zWf Λ late t m im l r)  : zMet G 0 yX7_law cX7_law 2 (some .int) [.ref 0, .int (nI 1)] 238 mi ml mr 238 (zPq (some (.int (sLaw Λ late (nI 1)))) mi ml mr) := by
  obtain ⟨hΛ, hlate, htr, ht, hm, him, hl, hw, hn72⟩ := id hX
  obtain ⟨hW, hla30, htw, hmw, himw, hlw, hrw⟩ := id hF
  have hP3 := hW.1.1
  have hW5 := hW.1.2.1
  have hy99 := hmw.1
  have hD9 := hr.Dl
  refine z_intro ([.ref 0, .int (nI 1)]) (by decide) rfl (Nat.le_of_ble_eq_true rfl) ?_
  refine e_iload_n 1 dX7_law_0 rfl rfl ?_
  refine e_tableIn 44 (off := 43) dX7_law_1 (by decide) (by decide) (by decide) (by decide) ?_
  refine e_aload_n 45 dX7_law_44 rfl rfl ?_
  refine e_getr 48 dX7_law_45 lf_X7_62 rfl rfl rfl (by decide) hr.land ?_
  refine e_geti 51 dX7_law_48 lf_X7_109 rfl rfl hr.dD.k0 hr.dD.l0 (hΛ.f3) ?_
  refine e_ireturn .int dX7_law_51 rfl rfl ?_
  exact ⟨rfl, rfl, rfl, rfl⟩

set_option maxHeartbeats 4000000 in
set_option maxRecDepth 100000 in
theorem k_X7_law_2 (G : zG) {D E : Nat} {Λ : zLd} {late : Nat} {tr : Int64} {t : zTx} {m : zMo} {im : Nat → Nat × zMo} {l : zLt} {r : zWr} {mi : zFi} {ml : zFl} {mr : zFr} (hr : zRf mr D E) (hX : zX mi ml D Λ late tr t m im l r) (hF : zWf Λ late t m im l r)  : zMet G 0 yX7_law cX7_law 2 (some .int) [.ref 0, .int (nI 2)] 238 mi ml mr 238 (zPq (some (.int (sLaw Λ late (nI 2)))) mi ml mr) := by
  obtain ⟨hΛ, hlate, htr, ht, hm, him, hl, hw, hn72⟩ := id hX
  obtain ⟨hW, hla30, htw, hmw, himw, hlw, hrw⟩ := id hF
  have hP3 := hW.1.1
  have hW5 := hW.1.2.1
  have hy99 := hmw.1
  have hD9 := hr.Dl
  refine z_intro ([.ref 0, .int (nI 2)]) (by decide) rfl (Nat.le_of_ble_eq_true rfl) ?_
  refine e_iload_n 1 dX7_law_0 rfl rfl ?_
  refine e_tableIn 52 (off := 51) dX7_law_1 (by decide) (by decide) (by decide) (by decide) ?_
  refine e_aload_n 53 dX7_law_52 rfl rfl ?_
  refine e_getr 56 dX7_law_53 lf_X7_62 rfl rfl rfl (by decide) hr.land ?_
  refine e_geti 59 dX7_law_56 lf_X7_112 rfl rfl hr.dD.k0 hr.dD.l0 (hΛ.f4) ?_
  refine e_ireturn .int dX7_law_59 rfl rfl ?_
  exact ⟨rfl, rfl, rfl, rfl⟩

set_option maxHeartbeats 4000000 in
set_option maxRecDepth 100000 in
theorem k_X7_law_3 (G : zG) {D E : Nat} {Λ : zLd} {late : Nat} {tr : Int64} {t : zTx} {m : zMo} {im : Nat → Nat × zMo} {l : zLt} {r : zWr} {mi : zFi} {ml : zFl} {mr : zFr} (hr : zRf mr D E) (hX : zX mi ml D Λ late tr t m im l r) (hF : zWf Λ late t m im l r)  : zMet G 0 yX7_law cX7_law 2 (some .int) [.ref 0, .int (nI 3)] 238 mi ml mr 238 (zPq (some (.int (sLaw Λ late (nI 3)))) mi ml mr) := by
  obtain ⟨hΛ, hlate, htr, ht, hm, him, hl, hw, hn72⟩ := id hX
  obtain ⟨hW, hla30, htw, hmw, himw, hlw, hrw⟩ := id hF
  have hP3 := hW.1.1
  have hW5 := hW.1.2.1
  have hy99 := hmw.1
  have hD9 := hr.Dl
  refine z_intro ([.ref 0, .int (nI 3)]) (by decide) rfl (Nat.le_of_ble_eq_true rfl) ?_
  refine e_iload_n 1 dX7_law_0 rfl rfl ?_
  refine e_tableIn 60 (off := 59) dX7_law_1 (by decide) (by decide) (by decide) (by decide) ?_
  refine e_aload_n 61 dX7_law_60 rfl rfl ?_
  refine e_getr 64 dX7_law_61 lf_X7_62 rfl rfl rfl (by decide) hr.land ?_
  refine e_geti 67 dX7_law_64 lf_X7_115 rfl rfl hr.dD.k0 hr.dD.l0 (hΛ.f5) ?_
  refine e_ireturn .int dX7_law_67 rfl rfl ?_
  exact ⟨rfl, rfl, rfl, rfl⟩

set_option maxHeartbeats 4000000 in
set_option maxRecDepth 100000 in
theorem k_X7_law_4 (G : zG) {D E : Nat} {Λ : zLd} {late : Nat} {tr : Int64} {t : zTx} {m : zMo} {im : Nat → Nat × zMo} {l : zLt} {r : zWr} {mi : zFi} {ml : zFl} {mr : zFr} (hr : zRf mr D E) (hX : zX mi ml D Λ late tr t m im l r) (hF : zWf Λ late t m im l r)  : zMet G 0 yX7_law cX7_law 2 (some .int) [.ref 0, .int (nI 4)] 238 mi ml mr 238 (zPq (some (.int (sLaw Λ late (nI 4)))) mi ml mr) := by
  obtain ⟨hΛ, hlate, htr, ht, hm, him, hl, hw, hn72⟩ := id hX
  obtain ⟨hW, hla30, htw, hmw, himw, hlw, hrw⟩ := id hF
  have hP3 := hW.1.1
  have hW5 := hW.1.2.1
  have hy99 := hmw.1
  have hD9 := hr.Dl
  refine z_intro ([.ref 0, .int (nI 4)]) (by decide) rfl (Nat.le_of_ble_eq_true rfl) ?_
  refine e_iload_n 1 dX7_law_0 rfl rfl ?_
  refine e_tableIn 68 (off := 67) dX7_law_1 (by decide) (by decide) (by decide) (by decide) ?_
  refine e_aload_n 69 dX7_law_68 rfl rfl ?_
  refine e_geti 72 dX7_law_69 lf_X7_69 rfl rfl rfl (by decide) hlate ?_
  refine e_ireturn .int dX7_law_72 rfl rfl ?_
  exact ⟨rfl, rfl, rfl, rfl⟩

set_option maxHeartbeats 4000000 in
set_option maxRecDepth 100000 in
theorem k_X7_law_d (G : zG) {D E : Nat} {Λ : zLd} {late : Nat} {tr : Int64} {t : zTx} {m : zMo} {im : Nat → Nat × zMo} {l : zLt} {r : zWr} {mi : zFi} {ml : zFl} {mr : zFr} (hr : zRf mr D E) (hX : zX mi ml D Λ late tr t m im l r) (hF : zWf Λ late t m im l r) {what : Int32} (hbad : ¬ vN what 5) : zMet G 0 yX7_law cX7_law 2 (some .int) [.ref 0, .int what] 238 mi ml mr 238 (zPq (some (.int (sLaw Λ late what))) mi ml mr) := by
  obtain ⟨hΛ, hlate, htr, ht, hm, him, hl, hw, hn72⟩ := id hX
  obtain ⟨hW, hla30, htw, hmw, himw, hlw, hrw⟩ := id hF
  have hP3 := hW.1.1
  have hW5 := hW.1.2.1
  have hy99 := hmw.1
  have hD9 := hr.Dl
  refine z_intro ([.ref 0, .int what]) (by decide) rfl (Nat.le_of_ble_eq_true rfl) ?_
  refine e_iload_n 1 dX7_law_0 rfl rfl ?_
  refine e_tableOut 73 dX7_law_1 (by have := vN_out hbad; omega) (by decide) ?_
  refine e_iconst 74 hic_m1 dX7_law_73 rfl ?_
  refine e_ireturn .int dX7_law_74 rfl rfl ?_
  exact ⟨by unfold sLaw; rw [iteN hbad], rfl, rfl, rfl⟩

set_option maxHeartbeats 4000000 in
set_option maxRecDepth 100000 in
theorem k_X7_law (G : zG) {D E : Nat} {Λ : zLd} {late : Nat} {tr : Int64} {t : zTx} {m : zMo} {im : Nat → Nat × zMo} {l : zLt} {r : zWr} {mi : zFi} {ml : zFl} {mr : zFr} (hr : zRf mr D E) (hX : zX mi ml D Λ late tr t m im l r) (hF : zWf Λ late t m im l r) {what : Int32} : zMet G 0 yX7_law cX7_law 2 (some .int) [.ref 0, .int what] 238 mi ml mr 238 (zPq (some (.int (sLaw Λ late what))) mi ml mr) := by
  by_cases h : vN what 5
  · obtain ⟨e, hk⟩ := h.nat
    rw [e]
    have h5 : zK what = 0 ∨ zK what = 1 ∨ zK what = 2 ∨ zK what = 3 ∨ zK what = 4 := by omega
    rcases h5 with q | q | q | q | q
    · rw [q]; exact k_X7_law_0 G hr hX hF
    · rw [q]; exact k_X7_law_1 G hr hX hF
    · rw [q]; exact k_X7_law_2 G hr hX hF
    · rw [q]; exact k_X7_law_3 G hr hX hF
    · rw [q]; exact k_X7_law_4 G hr hX hF
  · exact k_X7_law_d G hr hX hF h

set_option maxHeartbeats 4000000 in
set_option maxRecDepth 100000 in
theorem k_X7_late (G : zG) {D E : Nat} {Λ : zLd} {late : Nat} {tr : Int64} {t : zTx} {m : zMo} {im : Nat → Nat × zMo} {l : zLt} {r : zWr} {mi : zFi} {ml : zFl} {mr : zFr} (hr : zRf mr D E) (hX : zX mi ml D Λ late tr t m im l r) (hF : zWf Λ late t m im l r) {v : Int32} : zMet G 1 yX7_late cX7_late 3 (some .int) [.ref 0, .int v] 238 mi ml mr 238 (zPi fun x a b c => x = (@ite _ (vR v 0 30) (vR_dec _ _ _) (nI late) (-1)) ∧ zX a b D Λ (@ite _ (vR v 0 30) (vR_dec _ _ _) (zK v) late) tr t m im l r ∧ (∀ q, 224 ≤ q → a q = mi q) ∧ b = ml ∧ c = mr) := by
  obtain ⟨hΛ, hlate, htr, ht, hm, him, hl, hw, hn72⟩ := id hX
  obtain ⟨hW, hla30, htw, hmw, himw, hlw, hrw⟩ := id hF
  have hP3 := hW.1.1
  have hW5 := hW.1.2.1
  have hy99 := hmw.1
  have hD9 := hr.Dl
  refine z_intro ([.ref 0, .int v, zx]) (by decide) rfl (Nat.le_of_ble_eq_true rfl) ?_
  refine e_iload_n 1 dX7_late_0 rfl rfl ?_
  refine e_iconst 2 hic_0 dX7_late_1 rfl ?_
  refine e_bipush 4 hbi_30 dX7_late_2 rfl ?_
  refine c_Sqi 7 dX7_late_4 (k_X7_btw G (by decide) (by decide)) lm_X7_80 zt_yX7_between rfl rfl rfl (Nat.le_of_ble_eq_true rfl) (Nat.le_of_ble_eq_true rfl) (Nat.le_of_ble_eq_true rfl) (Nat.le_refl _) (Nat.le_refl _) ?_
  refine e_if_ne 12 10 dX7_late_7 (by decide) rfl (fun h7 => ?_) (fun h7 => ?_)
  · have h7 := zB_1 h7
    refine e_aload_n 13 dX7_late_12 rfl rfl ?_
    refine e_geti 16 dX7_late_13 lf_X7_69 rfl rfl rfl (by decide) hlate ?_
    refine e_istore_n 17 dX7_late_16 rfl (by decide) (zst1_2 rfl) ?_
    refine e_aload_n 18 dX7_late_17 rfl rfl ?_
    refine e_iload_n 19 dX7_late_18 rfl rfl ?_
    refine e_puti 22 dX7_late_19 lf_X7_69 rfl rfl rfl rfl (by first | rfl | assumption) (by first | decide | omega) ?_
    refine e_iload_n 23 dX7_late_22 rfl rfl ?_
    refine e_ireturn .int dX7_late_23 rfl rfl ?_
    refine ⟨_, rfl, by rw [iteP h7], ?_, fun q hq => zp_r _ _ _ (by omega), rfl, rfl⟩
    rw [iteP h7]
    exact ⟨hΛ.congr (fun j hj => zp_r _ _ _ (by omega)), (zp_s _ _ _ _).trans h7.nat.1, htr, ht.c (zp_r _ _ _ (by decide)) (zp_r _ _ _ (by decide)), hm.c hW (fun q h1 h2 => zp_r _ _ _ (by omega)), him.c hW (zp_r _ _ _ (by decide)) (fun q h1 h2 => zp_r _ _ _ (by omega)), hl.c (zp_r _ _ _ (by decide)), hw.c (zp_r _ _ _ (by decide)) (zp_r _ _ _ (by decide)) (zp_r _ _ _ (by decide)), (by rw [zp_r _ _ _ (by decide)]; exact hn72)⟩
  · have h7 := zB_0 h7
    refine e_iconst 11 hic_m1 dX7_late_10 rfl ?_
    refine e_ireturn .int dX7_late_11 rfl rfl ?_
    exact ⟨_, rfl, by rw [iteN h7], by rw [iteN h7]; exact hX, fun _ _ => rfl, rfl, rfl⟩

set_option maxHeartbeats 4000000 in
set_option maxRecDepth 100000 in
theorem k_X7_near (G : zG) {D E : Nat} {Λ : zLd} {late : Nat} {tr : Int64} {t : zTx} {m : zMo} {im : Nat → Nat × zMo} {l : zLt} {r : zWr} {mi : zFi} {ml : zFl} {mr : zFr} (hr : zRf mr D E) (hX : zX mi ml D Λ late tr t m im l r) (hF : zWf Λ late t m im l r) {p q : Int32} : zMet G 2 yX7_near cX7_near 3 (some .int) [.ref 0, .int p, .int q] 238 mi ml mr 238 (zPq (some (.int (sNear Λ p q))) mi ml mr) := by
  obtain ⟨hΛ, hlate, htr, ht, hm, him, hl, hw, hn72⟩ := id hX
  obtain ⟨hW, hla30, htw, hmw, himw, hlw, hrw⟩ := id hF
  have hP3 := hW.1.1
  have hW5 := hW.1.2.1
  have hy99 := hmw.1
  have hD9 := hr.Dl
  refine z_intro ([.ref 0, .int p, .int q]) (by decide) rfl (Nat.le_of_ble_eq_true rfl) ?_
  refine e_aload_n 1 dX7_near_0 rfl rfl ?_
  refine e_iload_n 2 dX7_near_1 rfl rfl ?_
  refine c_Vqi 5 (ci := 7) dX7_near_2 (k_X7_isPlace G hr hΛ hW) lm_X7_118 zi_yX7_isPlace zs_yX7_isPlace rfl (by first | rfl | assumption) (by first | decide | omega) rfl rfl rfl (Nat.le_of_ble_eq_true rfl) (Nat.le_of_ble_eq_true rfl) (Nat.le_of_ble_eq_true rfl) (Nat.le_refl _) (Nat.le_refl _) ?_
  refine e_if_eq 21 8 dX7_near_5 (by decide) rfl (fun h5 => ?_) (fun h5 => ?_)
  · have h5 := zB_0 h5
    refine e_iconst 22 hic_m1 dX7_near_21 rfl ?_
    refine e_ireturn .int dX7_near_22 rfl rfl ?_
    refine ⟨?_, rfl, rfl, rfl⟩
    unfold sNear
    first
      | exact congrArg (fun z => some (Value.int z)) (iteN h5).symm
      | exact congrArg (fun z => some (Value.int z)) ((iteP h5).trans (iteN h13)).symm
      | exact congrArg (fun z => some (Value.int z)) ((iteP h5).trans ((iteP h13).trans (if_pos heq))).symm
  · have h5 := zB_1 h5
    obtain ⟨ep, hp⟩ := h5.nat
    refine e_aload_n 9 dX7_near_8 rfl rfl ?_
    refine e_iload_n 10 dX7_near_9 rfl rfl ?_
    refine c_Vqi 13 (ci := 7) dX7_near_10 (k_X7_isPlace G hr hΛ hW) lm_X7_118 zi_yX7_isPlace zs_yX7_isPlace rfl (by first | rfl | assumption) (by first | decide | omega) rfl rfl rfl (Nat.le_of_ble_eq_true rfl) (Nat.le_of_ble_eq_true rfl) (Nat.le_of_ble_eq_true rfl) (Nat.le_refl _) (Nat.le_refl _) ?_
    refine e_if_eq 21 16 dX7_near_13 (by decide) rfl (fun h13 => ?_) (fun h13 => ?_)
    · have h13 := zB_0 h13
      refine e_iconst 22 hic_m1 dX7_near_21 rfl ?_
      refine e_ireturn .int dX7_near_22 rfl rfl ?_
      refine ⟨?_, rfl, rfl, rfl⟩
      unfold sNear
      first
        | exact congrArg (fun z => some (Value.int z)) (iteN h5).symm
        | exact congrArg (fun z => some (Value.int z)) ((iteP h5).trans (iteN h13)).symm
        | exact congrArg (fun z => some (Value.int z)) ((iteP h5).trans ((iteP h13).trans (if_pos heq))).symm
    · have h13 := zB_1 h13
      obtain ⟨eq, hq⟩ := h13.nat
      refine e_iload_n 17 dX7_near_16 rfl rfl ?_
      refine e_iload_n 18 dX7_near_17 rfl rfl ?_
      refine e_icmp_ne 23 21 dX7_near_18 (by decide) rfl (fun h18 => ?_) (fun h18 => ?_)
      · have hne : zK p ≠ zK q := fun z => h18 (by rw [ep, eq, z])
        refine e_aload_n 24 dX7_near_23 rfl rfl ?_
        refine e_getr 27 dX7_near_24 lf_X7_62 rfl rfl rfl (by decide) hr.land ?_
        rw [ep, eq]
        refine e_iload_n 28 dX7_near_27 rfl rfl ?_
        refine e_iload_n 29 dX7_near_28 rfl rfl ?_
        refine c_Vqi 32 (ci := 0) dX7_near_29 (k_X0_nearness G hr.dD hΛ (by omega) (by omega)) lm_X7_122 zi_yX0_nearness zs_yX0_nearness rfl hr.dD.k0 hr.dD.l0 rfl rfl rfl (Nat.le_of_ble_eq_true rfl) (Nat.le_of_ble_eq_true rfl) (Nat.le_of_ble_eq_true rfl) (Nat.le_refl _) (Nat.le_refl _) ?_
        refine e_ireturn .int dX7_near_32 rfl rfl ?_
        rw [← ep, ← eq]
        exact ⟨congrArg (fun z => some (Value.int z)) ((iteP h5).trans ((iteP h13).trans (if_neg hne))).symm, rfl, rfl, rfl⟩
      · have heq : zK p = zK q := by rw [h18]
        refine e_iconst 22 hic_m1 dX7_near_21 rfl ?_
        refine e_ireturn .int dX7_near_22 rfl rfl ?_
        refine ⟨?_, rfl, rfl, rfl⟩
        unfold sNear
        first
          | exact congrArg (fun z => some (Value.int z)) (iteN h5).symm
          | exact congrArg (fun z => some (Value.int z)) ((iteP h5).trans (iteN h13)).symm
          | exact congrArg (fun z => some (Value.int z)) ((iteP h5).trans ((iteP h13).trans (if_pos heq))).symm

