theorem z_nz1 : vp_nar .boolean (nI 1) = nI 1 := by decide
theorem z_nz0 : vp_nar .boolean (nI 0) = nI 0 := by decide
def sLifeOk (Λ : zLd) (w what : Int32) : Prop := vN w (Λ 0 1) ∧ vR what 0 3
def sLifeOk_dec (Λ : zLd) (w what : Int32) : Decidable (sLifeOk Λ w what) := by unfold sLifeOk; exact @instDecidableAnd _ _ (vN_dec _ _) (vR_dec _ _ _)
def zPeakV (Λ : zLd) (Y : Nat) (x : zSt) : Nat := zYm (Λ 0 0) x.2.1 (zPeakY (zYm (Λ 0 0) x.2.1) Y)
def sLife (Λ : zLd) (m : zMo) (w what : Int32) : Int32 := @ite _ (sLifeOk Λ w what) (sLifeOk_dec Λ w what) (if Λ 3 (zK w) ≤ m.1 then (if zK what = 0 then nI (zPeakV Λ m.1 (m.2.2.2 (zK w))) else if zK what = 1 then nI (zPeakY (zYm (Λ 0 0) (m.2.2.2 (zK w)).2.1) m.1) else if zK what = 2 then zOptI (zOver (zYm (Λ 0 0) (m.2.2.2 (zK w)).2.1) m.1) else nI (zKept (Λ 0 0) (m.2.2.2 (zK w)).1)) else -2) (-1)
theorem zYm_le {N Y : Nat} {x : zSt} (h : zStW N Y x) : ∀ y, y ≤ Y → zYm N x.2.1 y ≤ 1000 := fun y hy => by
  have := zsum_le (f := fun p => x.2.1 p y) (M := 1000) N 0 (fun i _ h2 => h.2.1 i (by omega) y hy)
  unfold zYm
  rcases Nat.eq_zero_or_pos N with e | e
  · subst e; simp
  · exact Nat.div_le_of_le_mul this
theorem zFst_lt {P : Nat → Bool} : ∀ (k y : Nat) (z : Nat), zFst P k y = some z → z < y + k
  | 0, _, _, h => by simp [zFst] at h
  | k + 1, y, z, h => by
    unfold zFst at h
    by_cases q : P y = true
    · rw [if_pos q] at h; cases h; omega
    · rw [if_neg q] at h; have := zFst_lt k (y + 1) z h; omega
theorem zOptI_none {o : Option Nat} (hb : ∀ z, o = some z → z < 2 ^ 31) (h : zOptI o = -9) : o = none := by
  cases o with
  | none => rfl
  | some z =>
    have h2 : (nI z).toInt = (-9 : Int32).toInt := congrArg Int32.toInt h
    rw [nI_toInt (hb z rfl)] at h2
    have e9 : (-9 : Int32).toInt = -9 := by decide
    rw [e9] at h2
    omega
theorem zOptI_some {o : Option Nat} (h : ¬ zOptI o = -9) : ∃ z, o = some z := by
  cases o with
  | none => exact absurd rfl h
  | some z => exact ⟨z, rfl⟩
def sPrinted (Λ : zLd) (late : Nat) (m : zMo) (w what : Int32) : Int32 := @ite _ (vN w (Λ 0 1)) (vN_dec _ _) (@ite _ (vR what 0 1) (vR_dec _ _ _) (match zPrt (m.2.2.2 (zK w)).2.2 m.1 with
  | some z => if zK what = 0 then nI (z + late) else nI (z + late) - nI (Λ 3 (zK w))
  | none => -9) (-1)) (-1)
theorem sPrinted_s {Λ : zLd} {late : Nat} {m : zMo} {w what : Int32} {z : Nat} (h1 : vN w (Λ 0 1)) (h2 : vR what 0 1) (h : zPrt (m.2.2.2 (zK w)).2.2 m.1 = some z) : sPrinted Λ late m w what = if zK what = 0 then nI (z + late) else nI (z + late) - nI (Λ 3 (zK w)) := by
  unfold sPrinted
  rw [iteP h1, iteP h2, h]
theorem sPrinted_n {Λ : zLd} {late : Nat} {m : zMo} {w what : Int32} (h1 : vN w (Λ 0 1)) (h2 : vR what 0 1) (h : zPrt (m.2.2.2 (zK w)).2.2 m.1 = none) : sPrinted Λ late m w what = -9 := by
  unfold sPrinted
  rw [iteP h1, iteP h2, h]
set_option maxHeartbeats 4000000 in
set_option maxRecDepth 100000 in
theorem k_X7_life_0 (G : zG) {D E : Nat} {Λ : zLd} {late : Nat} {tr : Int64} {t : zTx} {m : zMo} {im : Nat → Nat × zMo} {l : zLt} {r : zWr} {mi : zFi} {ml : zFl} {mr : zFr} (hr : zRf mr D E) (hX : zX mi ml D Λ late tr t m im l r) (hF : zWf Λ late t m im l r) {w : Int32} : zMet G 2 yX7_life cX7_life 4 (some .int) [.ref 0, .int w, .int (nI 0)] 238 mi ml mr 238 (zPq (some (.int (sLife Λ m w (nI 0)))) mi ml mr) := by
  obtain ⟨hΛ, hlate, htr, ht, hm, him, hl, hw, hn72⟩ := id hX
  obtain ⟨hW, hla30, htw, hmw, himw, hlw, hrw⟩ := id hF
  have hP3 := hW.1.1
  have hW5 := hW.1.2.1
  have hy99 := hmw.1
  have hD9 := hr.Dl
  refine z_intro ([.ref 0, .int w, .int (nI 0), zx]) (by decide) rfl (Nat.le_of_ble_eq_true rfl) ?_
  refine e_aload_n 1 dX7_life_0 rfl rfl ?_
  refine e_iload_n 2 dX7_life_1 rfl rfl ?_
  refine c_Vqi 5 (ci := 7) dX7_life_2 (k_X7_isWord G hr hΛ hW) lm_X7_126 zi_yX7_isWord zs_yX7_isWord rfl (by first | rfl | assumption) (by first | decide | omega) rfl rfl rfl (Nat.le_of_ble_eq_true rfl) (Nat.le_of_ble_eq_true rfl) (Nat.le_of_ble_eq_true rfl) (Nat.le_refl _) (Nat.le_refl _) ?_
  refine e_if_eq 17 8 dX7_life_5 (by decide) rfl (fun h5 => ?_) (fun h5 => ?_)
  · have h5 := zB_0 h5
    refine e_iconst 18 hic_m1 dX7_life_17 rfl ?_
    refine e_ireturn .int dX7_life_18 rfl rfl ?_
    refine ⟨someI (iteN (fun q => ?_)), rfl, rfl, rfl⟩
    first | exact h5 q.1 | exact h14 q.2
  · have h5 := zB_1 h5
    obtain ⟨ew, hw9⟩ := h5.nat
    refine e_iload_n 9 dX7_life_8 rfl rfl ?_
    refine e_iconst 10 hic_0 dX7_life_9 rfl ?_
    refine e_iconst 11 hic_3 dX7_life_10 rfl ?_
    refine c_Sqi 14 dX7_life_11 (k_X7_btw G (by decide) (by decide)) lm_X7_80 zt_yX7_between rfl rfl rfl (Nat.le_of_ble_eq_true rfl) (Nat.le_of_ble_eq_true rfl) (Nat.le_of_ble_eq_true rfl) (Nat.le_refl _) (Nat.le_refl _) ?_
    refine e_if_ne 19 17 dX7_life_14 (by decide) rfl (fun h14 => ?_) (fun h14 => ?_)
    · have h14 := zB_1 h14
      obtain ⟨eh, hh9⟩ := h14.nat
      rw [ew]
      refine e_aload_n 20 dX7_life_19 rfl rfl ?_
      refine e_iload_n 21 dX7_life_20 rfl rfl ?_
      refine c_Vqi 24 (ci := 7) dX7_life_21 (k_X7_isCoined G hr hΛ hW hw9 hm.1 hy99) lm_X7_142 zi_yX7_isCoined zs_yX7_isCoined rfl (by first | rfl | assumption) (by first | decide | omega) rfl rfl rfl (Nat.le_of_ble_eq_true rfl) (Nat.le_of_ble_eq_true rfl) (Nat.le_of_ble_eq_true rfl) (Nat.le_refl _) (Nat.le_refl _) ?_
      refine e_if_ne 30 27 dX7_life_24 (by decide) rfl (fun h24 => ?_) (fun h24 => ?_)
      · have h24 := zB_1 h24
        refine e_aload_n 31 dX7_life_30 rfl rfl ?_
        refine e_getr 34 dX7_life_31 lf_X7_19 rfl rfl rfl (by decide) hr.now ?_
        refine e_getr 37 dX7_life_34 lf_X7_159 rfl rfl rfl (by decide) hr.m3.r3 ?_
        refine e_iload_n 38 dX7_life_37 rfl rfl ?_
        refine e_aald 39 dX7_life_38 rfl hr.m3.k6 hr.m3.l6 rfl (hr.m3.n6 (by omega)) (hr.m3.lv (by omega)) ?_
        refine e_astore_n 40 dX7_life_39 rfl (by decide) (zst1_3 rfl) ?_
        refine e_iload_n 41 dX7_life_40 rfl rfl ?_
        refine e_tableIn 68 (off := 27) dX7_life_41 (by decide) (by decide) (by decide) (by decide) ?_
        refine e_aload_n 69 dX7_life_68 rfl rfl ?_
        refine e_aload_n 70 dX7_life_69 rfl rfl ?_
        refine e_getr 73 dX7_life_70 lf_X7_19 rfl rfl rfl (by decide) hr.now ?_
        refine e_geti 76 dX7_life_73 lf_X7_145 rfl rfl rfl (by decide) hm.1 ?_
        refine c_Vqi 79 (ci := 2) dX7_life_76 (k_X2_peak G (hr.m3.lf (w := zK w) (by omega)) (by omega) (fun y hy => (hm.2.2.2 _ hw9).2.2.1 y hy) (zYm_le (hmw.2.2 _ hw9).1)) lm_X7_191 zi_yX2_peak zs_yX2_peak rfl (hr.m3.lf (w := zK w) (by omega)).k0 (hr.m3.lf (w := zK w) (by omega)).l0 rfl rfl rfl (Nat.le_of_ble_eq_true rfl) (Nat.le_of_ble_eq_true rfl) (Nat.le_of_ble_eq_true rfl) (Nat.le_refl _) (Nat.le_refl _) ?_
        refine e_ireturn .int dX7_life_79 rfl rfl ?_
        rw [← ew]
        exact ⟨someI ((iteP (show sLifeOk Λ w _ from ⟨h5, h14⟩)).trans (if_pos h24)), rfl, rfl, rfl⟩
      · have h24 := zB_0 h24
        refine e_bipush 29 hbi_m2 dX7_life_27 rfl ?_
        refine e_ireturn .int dX7_life_29 rfl rfl ?_
        rw [← ew]
        exact ⟨someI ((iteP (show sLifeOk Λ w _ from ⟨h5, h14⟩)).trans (if_neg h24)), rfl, rfl, rfl⟩
    · have h14 := zB_0 h14
      refine e_iconst 18 hic_m1 dX7_life_17 rfl ?_
      refine e_ireturn .int dX7_life_18 rfl rfl ?_
      refine ⟨someI (iteN (fun q => ?_)), rfl, rfl, rfl⟩
      first | exact h5 q.1 | exact h14 q.2

set_option maxHeartbeats 4000000 in
set_option maxRecDepth 100000 in
theorem k_X7_life_1 (G : zG) {D E : Nat} {Λ : zLd} {late : Nat} {tr : Int64} {t : zTx} {m : zMo} {im : Nat → Nat × zMo} {l : zLt} {r : zWr} {mi : zFi} {ml : zFl} {mr : zFr} (hr : zRf mr D E) (hX : zX mi ml D Λ late tr t m im l r) (hF : zWf Λ late t m im l r) {w : Int32} : zMet G 2 yX7_life cX7_life 4 (some .int) [.ref 0, .int w, .int (nI 1)] 238 mi ml mr 238 (zPq (some (.int (sLife Λ m w (nI 1)))) mi ml mr) := by
  obtain ⟨hΛ, hlate, htr, ht, hm, him, hl, hw, hn72⟩ := id hX
  obtain ⟨hW, hla30, htw, hmw, himw, hlw, hrw⟩ := id hF
  have hP3 := hW.1.1
  have hW5 := hW.1.2.1
  have hy99 := hmw.1
  have hD9 := hr.Dl
  refine z_intro ([.ref 0, .int w, .int (nI 1), zx]) (by decide) rfl (Nat.le_of_ble_eq_true rfl) ?_
  refine e_aload_n 1 dX7_life_0 rfl rfl ?_
  refine e_iload_n 2 dX7_life_1 rfl rfl ?_
  refine c_Vqi 5 (ci := 7) dX7_life_2 (k_X7_isWord G hr hΛ hW) lm_X7_126 zi_yX7_isWord zs_yX7_isWord rfl (by first | rfl | assumption) (by first | decide | omega) rfl rfl rfl (Nat.le_of_ble_eq_true rfl) (Nat.le_of_ble_eq_true rfl) (Nat.le_of_ble_eq_true rfl) (Nat.le_refl _) (Nat.le_refl _) ?_
  refine e_if_eq 17 8 dX7_life_5 (by decide) rfl (fun h5 => ?_) (fun h5 => ?_)
  · have h5 := zB_0 h5
    refine e_iconst 18 hic_m1 dX7_life_17 rfl ?_
    refine e_ireturn .int dX7_life_18 rfl rfl ?_
    refine ⟨someI (iteN (fun q => ?_)), rfl, rfl, rfl⟩
    first | exact h5 q.1 | exact h14 q.2
  · have h5 := zB_1 h5
    obtain ⟨ew, hw9⟩ := h5.nat
    refine e_iload_n 9 dX7_life_8 rfl rfl ?_
    refine e_iconst 10 hic_0 dX7_life_9 rfl ?_
    refine e_iconst 11 hic_3 dX7_life_10 rfl ?_
    refine c_Sqi 14 dX7_life_11 (k_X7_btw G (by decide) (by decide)) lm_X7_80 zt_yX7_between rfl rfl rfl (Nat.le_of_ble_eq_true rfl) (Nat.le_of_ble_eq_true rfl) (Nat.le_of_ble_eq_true rfl) (Nat.le_refl _) (Nat.le_refl _) ?_
    refine e_if_ne 19 17 dX7_life_14 (by decide) rfl (fun h14 => ?_) (fun h14 => ?_)
    · have h14 := zB_1 h14
      obtain ⟨eh, hh9⟩ := h14.nat
      rw [ew]
      refine e_aload_n 20 dX7_life_19 rfl rfl ?_
      refine e_iload_n 21 dX7_life_20 rfl rfl ?_
      refine c_Vqi 24 (ci := 7) dX7_life_21 (k_X7_isCoined G hr hΛ hW hw9 hm.1 hy99) lm_X7_142 zi_yX7_isCoined zs_yX7_isCoined rfl (by first | rfl | assumption) (by first | decide | omega) rfl rfl rfl (Nat.le_of_ble_eq_true rfl) (Nat.le_of_ble_eq_true rfl) (Nat.le_of_ble_eq_true rfl) (Nat.le_refl _) (Nat.le_refl _) ?_
      refine e_if_ne 30 27 dX7_life_24 (by decide) rfl (fun h24 => ?_) (fun h24 => ?_)
      · have h24 := zB_1 h24
        refine e_aload_n 31 dX7_life_30 rfl rfl ?_
        refine e_getr 34 dX7_life_31 lf_X7_19 rfl rfl rfl (by decide) hr.now ?_
        refine e_getr 37 dX7_life_34 lf_X7_159 rfl rfl rfl (by decide) hr.m3.r3 ?_
        refine e_iload_n 38 dX7_life_37 rfl rfl ?_
        refine e_aald 39 dX7_life_38 rfl hr.m3.k6 hr.m3.l6 rfl (hr.m3.n6 (by omega)) (hr.m3.lv (by omega)) ?_
        refine e_astore_n 40 dX7_life_39 rfl (by decide) (zst1_3 rfl) ?_
        refine e_iload_n 41 dX7_life_40 rfl rfl ?_
        refine e_tableIn 80 (off := 39) dX7_life_41 (by decide) (by decide) (by decide) (by decide) ?_
        refine e_aload_n 81 dX7_life_80 rfl rfl ?_
        refine e_aload_n 82 dX7_life_81 rfl rfl ?_
        refine e_getr 85 dX7_life_82 lf_X7_19 rfl rfl rfl (by decide) hr.now ?_
        refine e_geti 88 dX7_life_85 lf_X7_145 rfl rfl rfl (by decide) hm.1 ?_
        refine c_Vqi 91 (ci := 2) dX7_life_88 (k_X2_peakYear G (hr.m3.lf (w := zK w) (by omega)) (by omega) (fun y hy => (hm.2.2.2 _ hw9).2.2.1 y hy) (zYm_le (hmw.2.2 _ hw9).1)) lm_X7_195 zi_yX2_peakYear zs_yX2_peakYear rfl (hr.m3.lf (w := zK w) (by omega)).k0 (hr.m3.lf (w := zK w) (by omega)).l0 rfl rfl rfl (Nat.le_of_ble_eq_true rfl) (Nat.le_of_ble_eq_true rfl) (Nat.le_of_ble_eq_true rfl) (Nat.le_refl _) (Nat.le_refl _) ?_
        refine e_ireturn .int dX7_life_91 rfl rfl ?_
        rw [← ew]
        exact ⟨someI ((iteP (show sLifeOk Λ w _ from ⟨h5, h14⟩)).trans (if_pos h24)), rfl, rfl, rfl⟩
      · have h24 := zB_0 h24
        refine e_bipush 29 hbi_m2 dX7_life_27 rfl ?_
        refine e_ireturn .int dX7_life_29 rfl rfl ?_
        rw [← ew]
        exact ⟨someI ((iteP (show sLifeOk Λ w _ from ⟨h5, h14⟩)).trans (if_neg h24)), rfl, rfl, rfl⟩
    · have h14 := zB_0 h14
      refine e_iconst 18 hic_m1 dX7_life_17 rfl ?_
      refine e_ireturn .int dX7_life_18 rfl rfl ?_
      refine ⟨someI (iteN (fun q => ?_)), rfl, rfl, rfl⟩
      first | exact h5 q.1 | exact h14 q.2

set_option maxHeartbeats 4000000 in
set_option maxRecDepth 100000 in
theorem k_X7_life_2 (G : zG) {D E : Nat} {Λ : zLd} {late : Nat} {tr : Int64} {t : zTx} {m : zMo} {im : Nat → Nat × zMo} {l : zLt} {r : zWr} {mi : zFi} {ml : zFl} {mr : zFr} (hr : zRf mr D E) (hX : zX mi ml D Λ late tr t m im l r) (hF : zWf Λ late t m im l r) {w : Int32} : zMet G 2 yX7_life cX7_life 4 (some .int) [.ref 0, .int w, .int (nI 2)] 238 mi ml mr 238 (zPq (some (.int (sLife Λ m w (nI 2)))) mi ml mr) := by
  obtain ⟨hΛ, hlate, htr, ht, hm, him, hl, hw, hn72⟩ := id hX
  obtain ⟨hW, hla30, htw, hmw, himw, hlw, hrw⟩ := id hF
  have hP3 := hW.1.1
  have hW5 := hW.1.2.1
  have hy99 := hmw.1
  have hD9 := hr.Dl
  refine z_intro ([.ref 0, .int w, .int (nI 2), zx]) (by decide) rfl (Nat.le_of_ble_eq_true rfl) ?_
  refine e_aload_n 1 dX7_life_0 rfl rfl ?_
  refine e_iload_n 2 dX7_life_1 rfl rfl ?_
  refine c_Vqi 5 (ci := 7) dX7_life_2 (k_X7_isWord G hr hΛ hW) lm_X7_126 zi_yX7_isWord zs_yX7_isWord rfl (by first | rfl | assumption) (by first | decide | omega) rfl rfl rfl (Nat.le_of_ble_eq_true rfl) (Nat.le_of_ble_eq_true rfl) (Nat.le_of_ble_eq_true rfl) (Nat.le_refl _) (Nat.le_refl _) ?_
  refine e_if_eq 17 8 dX7_life_5 (by decide) rfl (fun h5 => ?_) (fun h5 => ?_)
  · have h5 := zB_0 h5
    refine e_iconst 18 hic_m1 dX7_life_17 rfl ?_
    refine e_ireturn .int dX7_life_18 rfl rfl ?_
    refine ⟨someI (iteN (fun q => ?_)), rfl, rfl, rfl⟩
    first | exact h5 q.1 | exact h14 q.2
  · have h5 := zB_1 h5
    obtain ⟨ew, hw9⟩ := h5.nat
    refine e_iload_n 9 dX7_life_8 rfl rfl ?_
    refine e_iconst 10 hic_0 dX7_life_9 rfl ?_
    refine e_iconst 11 hic_3 dX7_life_10 rfl ?_
    refine c_Sqi 14 dX7_life_11 (k_X7_btw G (by decide) (by decide)) lm_X7_80 zt_yX7_between rfl rfl rfl (Nat.le_of_ble_eq_true rfl) (Nat.le_of_ble_eq_true rfl) (Nat.le_of_ble_eq_true rfl) (Nat.le_refl _) (Nat.le_refl _) ?_
    refine e_if_ne 19 17 dX7_life_14 (by decide) rfl (fun h14 => ?_) (fun h14 => ?_)
    · have h14 := zB_1 h14
      obtain ⟨eh, hh9⟩ := h14.nat
      rw [ew]
      refine e_aload_n 20 dX7_life_19 rfl rfl ?_
      refine e_iload_n 21 dX7_life_20 rfl rfl ?_
      refine c_Vqi 24 (ci := 7) dX7_life_21 (k_X7_isCoined G hr hΛ hW hw9 hm.1 hy99) lm_X7_142 zi_yX7_isCoined zs_yX7_isCoined rfl (by first | rfl | assumption) (by first | decide | omega) rfl rfl rfl (Nat.le_of_ble_eq_true rfl) (Nat.le_of_ble_eq_true rfl) (Nat.le_of_ble_eq_true rfl) (Nat.le_refl _) (Nat.le_refl _) ?_
      refine e_if_ne 30 27 dX7_life_24 (by decide) rfl (fun h24 => ?_) (fun h24 => ?_)
      · have h24 := zB_1 h24
        refine e_aload_n 31 dX7_life_30 rfl rfl ?_
        refine e_getr 34 dX7_life_31 lf_X7_19 rfl rfl rfl (by decide) hr.now ?_
        refine e_getr 37 dX7_life_34 lf_X7_159 rfl rfl rfl (by decide) hr.m3.r3 ?_
        refine e_iload_n 38 dX7_life_37 rfl rfl ?_
        refine e_aald 39 dX7_life_38 rfl hr.m3.k6 hr.m3.l6 rfl (hr.m3.n6 (by omega)) (hr.m3.lv (by omega)) ?_
        refine e_astore_n 40 dX7_life_39 rfl (by decide) (zst1_3 rfl) ?_
        refine e_iload_n 41 dX7_life_40 rfl rfl ?_
        refine e_tableIn 92 (off := 51) dX7_life_41 (by decide) (by decide) (by decide) (by decide) ?_
        refine e_aload_n 93 dX7_life_92 rfl rfl ?_
        refine e_aload_n 94 dX7_life_93 rfl rfl ?_
        refine e_getr 97 dX7_life_94 lf_X7_19 rfl rfl rfl (by decide) hr.now ?_
        refine e_geti 100 dX7_life_97 lf_X7_145 rfl rfl rfl (by decide) hm.1 ?_
        refine c_Vqi 103 (ci := 2) dX7_life_100 (k_X2_overYear G (hr.m3.lf (w := zK w) (by omega)) (by omega) (fun y hy => (hm.2.2.2 _ hw9).2.2.1 y hy) (zYm_le (hmw.2.2 _ hw9).1)) lm_X7_198 zi_yX2_overYear zs_yX2_overYear rfl (hr.m3.lf (w := zK w) (by omega)).k0 (hr.m3.lf (w := zK w) (by omega)).l0 rfl rfl rfl (Nat.le_of_ble_eq_true rfl) (Nat.le_of_ble_eq_true rfl) (Nat.le_of_ble_eq_true rfl) (Nat.le_refl _) (Nat.le_refl _) ?_
        refine e_ireturn .int dX7_life_103 rfl rfl ?_
        rw [← ew]
        exact ⟨someI ((iteP (show sLifeOk Λ w _ from ⟨h5, h14⟩)).trans (if_pos h24)), rfl, rfl, rfl⟩
      · have h24 := zB_0 h24
        refine e_bipush 29 hbi_m2 dX7_life_27 rfl ?_
        refine e_ireturn .int dX7_life_29 rfl rfl ?_
        rw [← ew]
        exact ⟨someI ((iteP (show sLifeOk Λ w _ from ⟨h5, h14⟩)).trans (if_neg h24)), rfl, rfl, rfl⟩
    · have h14 := zB_0 h14
      refine e_iconst 18 hic_m1 dX7_life_17 rfl ?_
      refine e_ireturn .int dX7_life_18 rfl rfl ?_
      refine ⟨someI (iteN (fun q => ?_)), rfl, rfl, rfl⟩
      first | exact h5 q.1 | exact h14 q.2

set_option maxHeartbeats 4000000 in
set_option maxRecDepth 100000 in
theorem k_X7_life_d (G : zG) {D E : Nat} {Λ : zLd} {late : Nat} {tr : Int64} {t : zTx} {m : zMo} {im : Nat → Nat × zMo} {l : zLt} {r : zWr} {mi : zFi} {ml : zFl} {mr : zFr} (hr : zRf mr D E) (hX : zX mi ml D Λ late tr t m im l r) (hF : zWf Λ late t m im l r) {w what : Int32} (hbad : ¬ vN what 3) : zMet G 2 yX7_life cX7_life 4 (some .int) [.ref 0, .int w, .int what] 238 mi ml mr 238 (zPq (some (.int (sLife Λ m w what))) mi ml mr) := by
  obtain ⟨hΛ, hlate, htr, ht, hm, him, hl, hw, hn72⟩ := id hX
  obtain ⟨hW, hla30, htw, hmw, himw, hlw, hrw⟩ := id hF
  have hP3 := hW.1.1
  have hW5 := hW.1.2.1
  have hy99 := hmw.1
  have hD9 := hr.Dl
  refine z_intro ([.ref 0, .int w, .int what, zx]) (by decide) rfl (Nat.le_of_ble_eq_true rfl) ?_
  refine e_aload_n 1 dX7_life_0 rfl rfl ?_
  refine e_iload_n 2 dX7_life_1 rfl rfl ?_
  refine c_Vqi 5 (ci := 7) dX7_life_2 (k_X7_isWord G hr hΛ hW) lm_X7_126 zi_yX7_isWord zs_yX7_isWord rfl (by first | rfl | assumption) (by first | decide | omega) rfl rfl rfl (Nat.le_of_ble_eq_true rfl) (Nat.le_of_ble_eq_true rfl) (Nat.le_of_ble_eq_true rfl) (Nat.le_refl _) (Nat.le_refl _) ?_
  refine e_if_eq 17 8 dX7_life_5 (by decide) rfl (fun h5 => ?_) (fun h5 => ?_)
  · have h5 := zB_0 h5
    refine e_iconst 18 hic_m1 dX7_life_17 rfl ?_
    refine e_ireturn .int dX7_life_18 rfl rfl ?_
    refine ⟨someI (iteN (fun q => ?_)), rfl, rfl, rfl⟩
    first | exact h5 q.1 | exact h14 q.2
  · have h5 := zB_1 h5
    obtain ⟨ew, hw9⟩ := h5.nat
    refine e_iload_n 9 dX7_life_8 rfl rfl ?_
    refine e_iconst 10 hic_0 dX7_life_9 rfl ?_
    refine e_iconst 11 hic_3 dX7_life_10 rfl ?_
    refine c_Sqi 14 dX7_life_11 (k_X7_btw G (by decide) (by decide)) lm_X7_80 zt_yX7_between rfl rfl rfl (Nat.le_of_ble_eq_true rfl) (Nat.le_of_ble_eq_true rfl) (Nat.le_of_ble_eq_true rfl) (Nat.le_refl _) (Nat.le_refl _) ?_
    refine e_if_ne 19 17 dX7_life_14 (by decide) rfl (fun h14 => ?_) (fun h14 => ?_)
    · have h14 := zB_1 h14
      obtain ⟨eh, hh9⟩ := h14.nat
      rw [ew]
      refine e_aload_n 20 dX7_life_19 rfl rfl ?_
      refine e_iload_n 21 dX7_life_20 rfl rfl ?_
      refine c_Vqi 24 (ci := 7) dX7_life_21 (k_X7_isCoined G hr hΛ hW hw9 hm.1 hy99) lm_X7_142 zi_yX7_isCoined zs_yX7_isCoined rfl (by first | rfl | assumption) (by first | decide | omega) rfl rfl rfl (Nat.le_of_ble_eq_true rfl) (Nat.le_of_ble_eq_true rfl) (Nat.le_of_ble_eq_true rfl) (Nat.le_refl _) (Nat.le_refl _) ?_
      refine e_if_ne 30 27 dX7_life_24 (by decide) rfl (fun h24 => ?_) (fun h24 => ?_)
      · have h24 := zB_1 h24
        refine e_aload_n 31 dX7_life_30 rfl rfl ?_
        refine e_getr 34 dX7_life_31 lf_X7_19 rfl rfl rfl (by decide) hr.now ?_
        refine e_getr 37 dX7_life_34 lf_X7_159 rfl rfl rfl (by decide) hr.m3.r3 ?_
        refine e_iload_n 38 dX7_life_37 rfl rfl ?_
        refine e_aald 39 dX7_life_38 rfl hr.m3.k6 hr.m3.l6 rfl (hr.m3.n6 (by omega)) (hr.m3.lv (by omega)) ?_
        refine e_astore_n 40 dX7_life_39 rfl (by decide) (zst1_3 rfl) ?_
        refine e_iload_n 41 dX7_life_40 rfl rfl ?_
        refine e_tableOut 104 dX7_life_41 (by have := vN_out hbad; omega) (by decide) ?_
        refine e_aload_n 105 dX7_life_104 rfl rfl ?_
        refine e_aload_n 106 dX7_life_105 rfl rfl ?_
        refine e_getr 109 dX7_life_106 lf_X7_62 rfl rfl rfl (by decide) hr.land ?_
        refine e_geti 112 dX7_life_109 lf_X7_184 rfl rfl hr.dD.k0 hr.dD.l0 (hΛ.f0) ?_
        refine c_Vqi 115 (ci := 2) dX7_life_112 (k_X2_keptAge G (hr.m3.lf (w := zK w) (by omega)) hP3 (hm.2.2.2 _ hw9).1 (hmw.2.2 _ hw9).1.1) lm_X7_201 zi_yX2_keptAge zs_yX2_keptAge rfl (hr.m3.lf (w := zK w) (by omega)).k0 (hr.m3.lf (w := zK w) (by omega)).l0 rfl rfl rfl (Nat.le_of_ble_eq_true rfl) (Nat.le_of_ble_eq_true rfl) (Nat.le_of_ble_eq_true rfl) (Nat.le_refl _) (Nat.le_refl _) ?_
        refine e_ireturn .int dX7_life_115 rfl rfl ?_
        rw [← ew]
        have hk3 : zK what = 3 := by have hb9 : ¬ zK what < 3 := fun z => hbad (by rw [eh]; exact (vN_nI (by omega)).mpr z); omega
        exact ⟨someI ((iteP (show sLifeOk Λ w what from ⟨h5, h14⟩)).trans ((if_pos h24).trans (by rw [hk3]; rfl))), rfl, rfl, rfl⟩
      · have h24 := zB_0 h24
        refine e_bipush 29 hbi_m2 dX7_life_27 rfl ?_
        refine e_ireturn .int dX7_life_29 rfl rfl ?_
        rw [← ew]
        exact ⟨someI ((iteP (show sLifeOk Λ w _ from ⟨h5, h14⟩)).trans (if_neg h24)), rfl, rfl, rfl⟩
    · have h14 := zB_0 h14
      refine e_iconst 18 hic_m1 dX7_life_17 rfl ?_
      refine e_ireturn .int dX7_life_18 rfl rfl ?_
      refine ⟨someI (iteN (fun q => ?_)), rfl, rfl, rfl⟩
      first | exact h5 q.1 | exact h14 q.2

set_option maxHeartbeats 4000000 in
set_option maxRecDepth 100000 in
theorem k_X7_life (G : zG) {D E : Nat} {Λ : zLd} {late : Nat} {tr : Int64} {t : zTx} {m : zMo} {im : Nat → Nat × zMo} {l : zLt} {r : zWr} {mi : zFi} {ml : zFl} {mr : zFr} (hr : zRf mr D E) (hX : zX mi ml D Λ late tr t m im l r) (hF : zWf Λ late t m im l r) {w what : Int32} : zMet G 2 yX7_life cX7_life 4 (some .int) [.ref 0, .int w, .int what] 238 mi ml mr 238 (zPq (some (.int (sLife Λ m w what))) mi ml mr) := by
  by_cases h : vN what 3
  · obtain ⟨e, hk⟩ := h.nat
    rw [e]
    have h5 : zK what = 0 ∨ zK what = 1 ∨ zK what = 2 := by omega
    rcases h5 with q | q | q
    · rw [q]; exact k_X7_life_0 G hr hX hF
    · rw [q]; exact k_X7_life_1 G hr hX hF
    · rw [q]; exact k_X7_life_2 G hr hX hF
  · exact k_X7_life_d G hr hX hF h

set_option maxHeartbeats 4000000 in
set_option maxRecDepth 100000 in
theorem k_X7_printed (G : zG) {D E : Nat} {Λ : zLd} {late : Nat} {tr : Int64} {t : zTx} {m : zMo} {im : Nat → Nat × zMo} {l : zLt} {r : zWr} {mi : zFi} {ml : zFl} {mr : zFr} (hr : zRf mr D E) (hX : zX mi ml D Λ late tr t m im l r) (hF : zWf Λ late t m im l r) {w what : Int32} : zMet G 2 yX7_printed cX7_printed 4 (some .int) [.ref 0, .int w, .int what] 238 mi ml mr 238 (zPq (some (.int (sPrinted Λ late m w what))) mi ml mr) := by
  obtain ⟨hΛ, hlate, htr, ht, hm, him, hl, hw, hn72⟩ := id hX
  obtain ⟨hW, hla30, htw, hmw, himw, hlw, hrw⟩ := id hF
  have hP3 := hW.1.1
  have hW5 := hW.1.2.1
  have hy99 := hmw.1
  have hD9 := hr.Dl
  refine z_intro ([.ref 0, .int w, .int what, zx]) (by decide) rfl (Nat.le_of_ble_eq_true rfl) ?_
  refine e_aload_n 1 dX7_printed_0 rfl rfl ?_
  refine e_iload_n 2 dX7_printed_1 rfl rfl ?_
  refine c_Vqi 5 (ci := 7) dX7_printed_2 (k_X7_isWord G hr hΛ hW) lm_X7_126 zi_yX7_isWord zs_yX7_isWord rfl (by first | rfl | assumption) (by first | decide | omega) rfl rfl rfl (Nat.le_of_ble_eq_true rfl) (Nat.le_of_ble_eq_true rfl) (Nat.le_of_ble_eq_true rfl) (Nat.le_refl _) (Nat.le_refl _) ?_
  refine e_if_eq 17 8 dX7_printed_5 (by decide) rfl (fun h5 => ?_) (fun h5 => ?_)
  · have h5 := zB_0 h5
    refine e_iconst 18 hic_m1 dX7_printed_17 rfl ?_
    refine e_ireturn .int dX7_printed_18 rfl rfl ?_
    refine ⟨someI (ite2_0 (fun q => ?_)), rfl, rfl, rfl⟩
    first | exact h5 q.1 | exact h14 q.2
  · have h5 := zB_1 h5
    obtain ⟨ew, hw9⟩ := h5.nat
    refine e_iload_n 9 dX7_printed_8 rfl rfl ?_
    refine e_iconst 10 hic_0 dX7_printed_9 rfl ?_
    refine e_iconst 11 hic_1 dX7_printed_10 rfl ?_
    refine c_Sqi 14 dX7_printed_11 (k_X7_btw G (by decide) (by decide)) lm_X7_80 zt_yX7_between rfl rfl rfl (Nat.le_of_ble_eq_true rfl) (Nat.le_of_ble_eq_true rfl) (Nat.le_of_ble_eq_true rfl) (Nat.le_refl _) (Nat.le_refl _) ?_
    refine e_if_ne 19 17 dX7_printed_14 (by decide) rfl (fun h14 => ?_) (fun h14 => ?_)
    · have h14 := zB_1 h14
      obtain ⟨eh, hh9⟩ := h14.nat
      rw [ew]
      refine e_aload_n 20 dX7_printed_19 rfl rfl ?_
      refine e_getr 23 dX7_printed_20 lf_X7_19 rfl rfl rfl (by decide) hr.now ?_
      refine e_getr 26 dX7_printed_23 lf_X7_159 rfl rfl rfl (by decide) hr.m3.r3 ?_
      refine e_iload_n 27 dX7_printed_26 rfl rfl ?_
      refine e_aald 28 dX7_printed_27 rfl hr.m3.k6 hr.m3.l6 rfl (hr.m3.n6 (by omega)) (hr.m3.lv (by omega)) ?_
      refine e_aload_n 29 dX7_printed_28 rfl rfl ?_
      refine e_getr 32 dX7_printed_29 lf_X7_19 rfl rfl rfl (by decide) hr.now ?_
      refine e_geti 35 dX7_printed_32 lf_X7_145 rfl rfl rfl (by decide) hm.1 ?_
      refine c_Vqi 38 (ci := 2) dX7_printed_35 (k_X2_parentsYear G (hr.m3.lf (w := zK w) (by omega)) (by omega) (fun y hy => (hm.2.2.2 _ hw9).2.2.2 y hy) (hmw.2.2 _ hw9).1.2.2) lm_X7_204 zi_yX2_parentsYear zs_yX2_parentsYear rfl (hr.m3.lf (w := zK w) (by omega)).k0 (hr.m3.lf (w := zK w) (by omega)).l0 rfl rfl rfl (Nat.le_of_ble_eq_true rfl) (Nat.le_of_ble_eq_true rfl) (Nat.le_of_ble_eq_true rfl) (Nat.le_refl _) (Nat.le_refl _) ?_
      refine e_istore_n 39 dX7_printed_38 rfl (by decide) (zst1_3 rfl) ?_
      refine e_iload_n 40 dX7_printed_39 rfl rfl ?_
      refine e_bipush 42 hbi_m9 dX7_printed_40 rfl ?_
      refine e_icmp_ne 48 45 dX7_printed_42 (by decide) rfl (fun h42 => ?_) (fun h42 => ?_)
      · obtain ⟨z, hz⟩ := zOptI_some h42
        rw [hz]
        have ez : zOptI (some z) = nI z := rfl
        rw [ez, eh]
        refine e_iload_n 49 dX7_printed_48 rfl rfl ?_
        refine e_if_neN 61 52 dX7_printed_49 (by decide) rfl (by omega) (fun h49 => ?_) (fun h49 => ?_)
        · refine e_iload_n 62 dX7_printed_61 rfl rfl ?_
          refine e_aload_n 63 dX7_printed_62 rfl rfl ?_
          refine e_geti 66 dX7_printed_63 lf_X7_69 rfl rfl rfl (by decide) hlate ?_
          first | refine e_iaddN 67 dX7_printed_66 rfl ?_ | refine e_iadd 67 dX7_printed_66 rfl ?_
          refine e_aload_n 68 dX7_printed_67 rfl rfl ?_
          refine e_getr 71 dX7_printed_68 lf_X7_62 rfl rfl rfl (by decide) hr.land ?_
          refine e_getr 74 dX7_printed_71 lf_X7_133 rfl rfl hr.dD.k0 hr.dD.l0 hr.dD.r3 ?_
          refine e_iload_n 75 dX7_printed_74 rfl rfl ?_
          refine e_iald 76 dX7_printed_75 rfl hr.dD.k3 (hr.dD.l (j := 3) (by decide)) rfl (by rw [hr.dD.n3]; omega) (hΛ.2.2 _ hw9).2.1 ?_
          refine e_isub 77 dX7_printed_76 rfl ?_
          refine e_ireturn .int dX7_printed_77 rfl rfl ?_
          rw [← ew, ← eh]
          refine ⟨someI ((sPrinted_s h5 h14 hz).trans ?_), rfl, rfl, rfl⟩
          first | rw [if_pos h49] | rw [if_neg (by omega)]
        · refine e_iload_n 53 dX7_printed_52 rfl rfl ?_
          refine e_aload_n 54 dX7_printed_53 rfl rfl ?_
          refine e_geti 57 dX7_printed_54 lf_X7_69 rfl rfl rfl (by decide) hlate ?_
          first | refine e_iaddN 58 dX7_printed_57 rfl ?_ | refine e_iadd 58 dX7_printed_57 rfl ?_
          refine e_goto 77 dX7_printed_58 (by decide) ?_
          refine e_ireturn .int dX7_printed_77 rfl rfl ?_
          rw [← ew, ← eh]
          refine ⟨someI ((sPrinted_s h5 h14 hz).trans ?_), rfl, rfl, rfl⟩
          first | rw [if_pos h49] | rw [if_neg (by omega)]
      · have hz := zOptI_none (fun z hz => by have := zFst_lt _ _ _ hz; omega) h42
        refine e_bipush 47 hbi_m9 dX7_printed_45 rfl ?_
        refine e_ireturn .int dX7_printed_47 rfl rfl ?_
        rw [← ew]
        exact ⟨someI (sPrinted_n h5 h14 hz), rfl, rfl, rfl⟩
    · have h14 := zB_0 h14
      refine e_iconst 18 hic_m1 dX7_printed_17 rfl ?_
      refine e_ireturn .int dX7_printed_18 rfl rfl ?_
      refine ⟨someI (ite2_0 (fun q => ?_)), rfl, rfl, rfl⟩
      first | exact h5 q.1 | exact h14 q.2

def sKeep (m : zMo) (i : Int32) : Int32 := @ite _ (vR i 0 1) (vR_dec _ _ _) (nI m.1) (-1)
def sKeepI (m : zMo) (im : Nat → Nat × zMo) (i : Int32) : Nat → Nat × zMo := @ite _ (vR i 0 1) (vR_dec _ _ _) (zu im (zK i) (1, m)) im
def sBack (m : zMo) (im : Nat → Nat × zMo) (i : Int32) : Int32 := @ite _ (vR i 0 1) (vR_dec _ _ _) (if (im (zK i)).1 = 1 then nI (im (zK i)).2.1 else -2) (-1)
def sBackM (m : zMo) (im : Nat → Nat × zMo) (i : Int32) : zMo := @ite _ (vR i 0 1) (vR_dec _ _ _) (if (im (zK i)).1 = 1 then (im (zK i)).2 else m) m
theorem vR_k {k : Nat} (h : k ≤ 1) : vR (nI k) 0 1 := (vR_nI (by omega)).mpr ⟨Nat.zero_le _, h⟩
set_option maxHeartbeats 4000000 in
set_option maxRecDepth 100000 in
theorem k_X7_keep_0 (G : zG) {D E : Nat} {Λ : zLd} {late : Nat} {tr : Int64} {t : zTx} {m : zMo} {im : Nat → Nat × zMo} {l : zLt} {r : zWr} {mi : zFi} {ml : zFl} {mr : zFr} (hr : zRf mr D E) (hX : zX mi ml D Λ late tr t m im l r) (hF : zWf Λ late t m im l r) : zMet G 3 yX7_keep cX7_keep 2 (some .int) [.ref 0, .int (nI 0)] 238 mi ml mr 238 (zPi fun x a b c => x = sKeep m (nI 0) ∧ zX a b D Λ late tr t m (sKeepI m im (nI 0)) l r ∧ (∀ q, 224 ≤ q → a q = mi q) ∧ b = ml ∧ c = mr) := by
  obtain ⟨hΛ, hlate, htr, ht, hm, him, hl, hw, hn72⟩ := id hX
  obtain ⟨hW, hla30, htw, hmw, himw, hlw, hrw⟩ := id hF
  have hP3 := hW.1.1
  have hW5 := hW.1.2.1
  have hy99 := hmw.1
  have hD9 := hr.Dl
  refine z_intro ([.ref 0, .int (nI 0)]) (by decide) rfl (Nat.le_of_ble_eq_true rfl) ?_
  refine e_iload_n 1 dX7_keep_0 rfl rfl ?_
  refine e_iconst 2 hic_0 dX7_keep_1 rfl ?_
  refine e_iconst 3 hic_1 dX7_keep_2 rfl ?_
  refine c_Sqi 6 dX7_keep_3 (k_X7_btw G (by decide) (by decide)) lm_X7_80 zt_yX7_between rfl rfl rfl (Nat.le_of_ble_eq_true rfl) (Nat.le_of_ble_eq_true rfl) (Nat.le_of_ble_eq_true rfl) (Nat.le_refl _) (Nat.le_refl _) ?_
  refine e_if_ne 11 9 dX7_keep_6 (by decide) rfl (fun h6 => ?_) (fun h6 => ?_)
  · refine e_aload_n 12 dX7_keep_11 rfl rfl ?_
    refine e_getr 15 dX7_keep_12 lf_X7_23 rfl rfl rfl (by decide) hr.images ?_
    refine e_iload_n 16 dX7_keep_15 rfl rfl ?_
    refine e_aald 17 dX7_keep_16 rfl (by decide) (by decide) rfl (by decide) hr.im0 ?_
    refine e_aload_n 18 dX7_keep_17 rfl rfl ?_
    refine e_getr 21 dX7_keep_18 lf_X7_19 rfl rfl rfl (by decide) hr.now ?_
    refine c_Vv 24 (ci := 3) dX7_keep_21 (k_X3_copyFrom G hr.m100 hr.m3 (by decide) hP3 hW5 (by omega) hmw.2.1.1 hm) lm_X7_296 zi_yX3_copyFrom zs_yX3_copyFrom rfl (by first | rfl | assumption) (by first | decide | omega) rfl rfl rfl (Nat.le_of_ble_eq_true rfl) (Nat.le_of_ble_eq_true rfl) (Nat.le_of_ble_eq_true rfl) (Nat.le_refl _) (Nat.le_refl _) ?_
    rintro a _ _ ⟨a1, r1, rfl, rfl⟩
    refine e_aload_n 25 dX7_keep_24 rfl rfl ?_
    refine e_getr 28 dX7_keep_25 lf_X7_27 rfl rfl rfl (by decide) hr.kept ?_
    refine e_iload_n 29 dX7_keep_28 rfl rfl ?_
    refine e_iconst 30 hic_1 dX7_keep_29 rfl ?_
    refine e_zast 31 dX7_keep_30 rfl (by first | rfl | assumption) (by first | decide | omega) rfl (by decide) z_nz1 ?_
    refine e_aload_n 32 dX7_keep_31 rfl rfl ?_
    refine e_getr 35 dX7_keep_32 lf_X7_19 rfl rfl rfl (by decide) hr.now ?_
    refine e_geti (v := nI m.1) 38 dX7_keep_35 lf_X7_145 rfl rfl rfl (by decide) (by rw [zp_r _ _ _ (by decide), a1 _ (by decide)]; exact hm.1) ?_
    refine e_ireturn .int dX7_keep_38 rfl rfl ?_
    have e1 : sKeep m (nI 0) = nI m.1 := iteP (vR_k (by decide))
    have e2 : sKeepI m im (nI 0) = zu im 0 (1, m) := iteP (vR_k (by decide))
    rw [e1, e2]
    have hfar : ∀ q, q ≠ 66 → (q < 100 ∨ 162 ≤ q) → zp a 66 0 (nI 1) q = mi q := fun q h1 h2 => by rw [zp_r _ _ _ h1]; exact a1 q (by omega)
    refine ⟨_, rfl, rfl, ⟨hΛ.congr (fun j hj => hfar _ (by omega) (by omega)), (by rw [hfar _ (by decide) (by decide)]; exact hlate), htr, ht.c (hfar _ (by decide) (by decide)) (hfar _ (by decide) (by decide)), hm.c hW (fun q h1 h2 => hfar _ (by omega) (by omega)), ?_, hl.c (hfar _ (by decide) (by decide)), hw.c (hfar _ (by decide) (by decide)) (hfar _ (by decide) (by decide)) (hfar _ (by decide) (by decide)), (by rw [hfar _ (by decide) (by decide)]; exact hn72)⟩, fun q hq => hfar q (by omega) (by omega), rfl, rfl⟩
    have r2 : zMoR (zp a 66 0 (nI 1)) 100 Λ m := zMoR.c hW (mi := a) r1 (fun q h1 h2 => zp_r _ _ _ (by omega))
    refine ⟨⟨?_, ?_⟩, fun _ => r2, fun g => ?_⟩
    · rw [zu_s, zp_s]
    · rw [zu_n _ _ (by decide), zp_k _ _ (by decide), a1 _ (by decide)]; exact him.1.2
    · rw [zu_n _ _ (by decide)] at g ⊢; exact (him.2.2 g).c hW (fun q h1 h2 => hfar q (by omega) (by omega))
  · exact absurd (vR_k (by decide)) (zB_0 h6)

set_option maxHeartbeats 4000000 in
set_option maxRecDepth 100000 in
theorem k_X7_back_0 (G : zG) {D E : Nat} {Λ : zLd} {late : Nat} {tr : Int64} {t : zTx} {m : zMo} {im : Nat → Nat × zMo} {l : zLt} {r : zWr} {mi : zFi} {ml : zFl} {mr : zFr} (hr : zRf mr D E) (hX : zX mi ml D Λ late tr t m im l r) (hF : zWf Λ late t m im l r) : zMet G 3 yX7_back cX7_back 2 (some .int) [.ref 0, .int (nI 0)] 238 mi ml mr 238 (zPi fun x a b c => x = sBack m im (nI 0) ∧ zX a b D Λ late tr t (sBackM m im (nI 0)) im l r ∧ (∀ q, 224 ≤ q → a q = mi q) ∧ b = ml ∧ c = mr) := by
  obtain ⟨hΛ, hlate, htr, ht, hm, him, hl, hw, hn72⟩ := id hX
  obtain ⟨hW, hla30, htw, hmw, himw, hlw, hrw⟩ := id hF
  have hP3 := hW.1.1
  have hW5 := hW.1.2.1
  have hy99 := hmw.1
  have hD9 := hr.Dl
  refine z_intro ([.ref 0, .int (nI 0)]) (by decide) rfl (Nat.le_of_ble_eq_true rfl) ?_
  refine e_iload_n 1 dX7_back_0 rfl rfl ?_
  refine e_iconst 2 hic_0 dX7_back_1 rfl ?_
  refine e_iconst 3 hic_1 dX7_back_2 rfl ?_
  refine c_Sqi 6 dX7_back_3 (k_X7_btw G (by decide) (by decide)) lm_X7_80 zt_yX7_between rfl rfl rfl (Nat.le_of_ble_eq_true rfl) (Nat.le_of_ble_eq_true rfl) (Nat.le_of_ble_eq_true rfl) (Nat.le_refl _) (Nat.le_refl _) ?_
  refine e_if_ne 11 9 dX7_back_6 (by decide) rfl (fun h6 => ?_) (fun h6 => ?_)
  · refine e_aload_n 12 dX7_back_11 rfl rfl ?_
    refine e_getr 15 dX7_back_12 lf_X7_27 rfl rfl rfl (by decide) hr.kept ?_
    refine e_iload_n 16 dX7_back_15 rfl rfl ?_
    refine e_zald 17 dX7_back_16 rfl (by first | rfl | assumption) (by first | decide | omega) rfl (by decide) him.1.1 ?_
    refine e_if_neN 23 20 dX7_back_17 (by decide) rfl (by have := himw 0 (by decide); omega) (fun h17 => ?_) (fun h17 => ?_)
    · have hk1 : (im 0).1 = 1 := by have := (himw 0 (by decide)).1; omega
      refine e_aload_n 24 dX7_back_23 rfl rfl ?_
      refine e_getr 27 dX7_back_24 lf_X7_19 rfl rfl rfl (by decide) hr.now ?_
      refine e_aload_n 28 dX7_back_27 rfl rfl ?_
      refine e_getr 31 dX7_back_28 lf_X7_23 rfl rfl rfl (by decide) hr.images ?_
      refine e_iload_n 32 dX7_back_31 rfl rfl ?_
      refine e_aald 33 dX7_back_32 rfl (by decide) (by decide) rfl (by decide) hr.im0 ?_
      refine c_Vv 36 (ci := 3) dX7_back_33 (k_X3_copyFrom G hr.m3 hr.m100 (by decide) hP3 hW5 (by have := ((himw 0 (by decide)).2 hk1).1; omega) ((himw 0 (by decide)).2 hk1).2.1.1 (him.2.1 hk1)) lm_X7_296 zi_yX3_copyFrom zs_yX3_copyFrom rfl (by first | rfl | assumption) (by first | decide | omega) rfl rfl rfl (Nat.le_of_ble_eq_true rfl) (Nat.le_of_ble_eq_true rfl) (Nat.le_of_ble_eq_true rfl) (Nat.le_refl _) (Nat.le_refl _) ?_
      rintro a _ _ ⟨a1, r1, rfl, rfl⟩
      refine e_aload_n 37 dX7_back_36 rfl rfl ?_
      refine e_getr 40 dX7_back_37 lf_X7_19 rfl rfl rfl (by decide) hr.now ?_
      refine e_geti 43 dX7_back_40 lf_X7_145 rfl rfl rfl (by decide) r1.1 ?_
      refine e_ireturn .int dX7_back_43 rfl rfl ?_
      have e1 : sBack m im (nI 0) = nI (im 0).2.1 := (iteP (vR_k (by decide))).trans (if_pos hk1)
      have e2 : sBackM m im (nI 0) = (im 0).2 := (iteP (vR_k (by decide))).trans (if_pos hk1)
      rw [e1, e2]
      exact ⟨_, rfl, rfl, hX.mom hW (by omega) (fun q hq => a1 q (by omega)) r1, fun q hq => a1 q (by omega), rfl, rfl⟩
    · refine e_bipush 22 hbi_m2 dX7_back_20 rfl ?_
      refine e_ireturn .int dX7_back_22 rfl rfl ?_
      have e1 : sBack m im (nI 0) = -2 := (iteP (vR_k (by decide))).trans (if_neg (show ¬ (im 0).1 = 1 by omega))
      have e2 : sBackM m im (nI 0) = m := (iteP (vR_k (by decide))).trans (if_neg (show ¬ (im 0).1 = 1 by omega))
      rw [e1, e2]
      exact ⟨_, rfl, rfl, hX, fun _ _ => rfl, rfl, rfl⟩
  · exact absurd (vR_k (by decide)) (zB_0 h6)

set_option maxHeartbeats 4000000 in
set_option maxRecDepth 100000 in
theorem k_X7_keep_1 (G : zG) {D E : Nat} {Λ : zLd} {late : Nat} {tr : Int64} {t : zTx} {m : zMo} {im : Nat → Nat × zMo} {l : zLt} {r : zWr} {mi : zFi} {ml : zFl} {mr : zFr} (hr : zRf mr D E) (hX : zX mi ml D Λ late tr t m im l r) (hF : zWf Λ late t m im l r) : zMet G 3 yX7_keep cX7_keep 2 (some .int) [.ref 0, .int (nI 1)] 238 mi ml mr 238 (zPi fun x a b c => x = sKeep m (nI 1) ∧ zX a b D Λ late tr t m (sKeepI m im (nI 1)) l r ∧ (∀ q, 224 ≤ q → a q = mi q) ∧ b = ml ∧ c = mr) := by
  obtain ⟨hΛ, hlate, htr, ht, hm, him, hl, hw, hn72⟩ := id hX
  obtain ⟨hW, hla30, htw, hmw, himw, hlw, hrw⟩ := id hF
  have hP3 := hW.1.1
  have hW5 := hW.1.2.1
  have hy99 := hmw.1
  have hD9 := hr.Dl
  refine z_intro ([.ref 0, .int (nI 1)]) (by decide) rfl (Nat.le_of_ble_eq_true rfl) ?_
  refine e_iload_n 1 dX7_keep_0 rfl rfl ?_
  refine e_iconst 2 hic_0 dX7_keep_1 rfl ?_
  refine e_iconst 3 hic_1 dX7_keep_2 rfl ?_
  refine c_Sqi 6 dX7_keep_3 (k_X7_btw G (by decide) (by decide)) lm_X7_80 zt_yX7_between rfl rfl rfl (Nat.le_of_ble_eq_true rfl) (Nat.le_of_ble_eq_true rfl) (Nat.le_of_ble_eq_true rfl) (Nat.le_refl _) (Nat.le_refl _) ?_
  refine e_if_ne 11 9 dX7_keep_6 (by decide) rfl (fun h6 => ?_) (fun h6 => ?_)
  · refine e_aload_n 12 dX7_keep_11 rfl rfl ?_
    refine e_getr 15 dX7_keep_12 lf_X7_23 rfl rfl rfl (by decide) hr.images ?_
    refine e_iload_n 16 dX7_keep_15 rfl rfl ?_
    refine e_aald 17 dX7_keep_16 rfl (by decide) (by decide) rfl (by decide) hr.im1 ?_
    refine e_aload_n 18 dX7_keep_17 rfl rfl ?_
    refine e_getr 21 dX7_keep_18 lf_X7_19 rfl rfl rfl (by decide) hr.now ?_
    refine c_Vv 24 (ci := 3) dX7_keep_21 (k_X3_copyFrom G hr.m162 hr.m3 (by decide) hP3 hW5 (by omega) hmw.2.1.1 hm) lm_X7_296 zi_yX3_copyFrom zs_yX3_copyFrom rfl (by first | rfl | assumption) (by first | decide | omega) rfl rfl rfl (Nat.le_of_ble_eq_true rfl) (Nat.le_of_ble_eq_true rfl) (Nat.le_of_ble_eq_true rfl) (Nat.le_refl _) (Nat.le_refl _) ?_
    rintro a _ _ ⟨a1, r1, rfl, rfl⟩
    refine e_aload_n 25 dX7_keep_24 rfl rfl ?_
    refine e_getr 28 dX7_keep_25 lf_X7_27 rfl rfl rfl (by decide) hr.kept ?_
    refine e_iload_n 29 dX7_keep_28 rfl rfl ?_
    refine e_iconst 30 hic_1 dX7_keep_29 rfl ?_
    refine e_zast 31 dX7_keep_30 rfl (by first | rfl | assumption) (by first | decide | omega) rfl (by decide) z_nz1 ?_
    refine e_aload_n 32 dX7_keep_31 rfl rfl ?_
    refine e_getr 35 dX7_keep_32 lf_X7_19 rfl rfl rfl (by decide) hr.now ?_
    refine e_geti (v := nI m.1) 38 dX7_keep_35 lf_X7_145 rfl rfl rfl (by decide) (by rw [zp_r _ _ _ (by decide), a1 _ (by decide)]; exact hm.1) ?_
    refine e_ireturn .int dX7_keep_38 rfl rfl ?_
    have e1 : sKeep m (nI 1) = nI m.1 := iteP (vR_k (by decide))
    have e2 : sKeepI m im (nI 1) = zu im 1 (1, m) := iteP (vR_k (by decide))
    rw [e1, e2]
    have hfar : ∀ q, q ≠ 66 → (q < 162 ∨ 224 ≤ q) → zp a 66 1 (nI 1) q = mi q := fun q h1 h2 => by rw [zp_r _ _ _ h1]; exact a1 q (by omega)
    refine ⟨_, rfl, rfl, ⟨hΛ.congr (fun j hj => hfar _ (by omega) (by omega)), (by rw [hfar _ (by decide) (by decide)]; exact hlate), htr, ht.c (hfar _ (by decide) (by decide)) (hfar _ (by decide) (by decide)), hm.c hW (fun q h1 h2 => hfar _ (by omega) (by omega)), ?_, hl.c (hfar _ (by decide) (by decide)), hw.c (hfar _ (by decide) (by decide)) (hfar _ (by decide) (by decide)) (hfar _ (by decide) (by decide)), (by rw [hfar _ (by decide) (by decide)]; exact hn72)⟩, fun q hq => hfar q (by omega) (by omega), rfl, rfl⟩
    have r2 : zMoR (zp a 66 1 (nI 1)) 162 Λ m := zMoR.c hW (mi := a) r1 (fun q h1 h2 => zp_r _ _ _ (by omega))
    refine ⟨⟨?_, ?_⟩, fun g => ?_, fun _ => r2⟩
    · rw [zu_n _ _ (by decide), zp_k _ _ (by decide), a1 _ (by decide)]; exact him.1.1
    · rw [zu_s, zp_s]
    · rw [zu_n _ _ (by decide)] at g ⊢; exact (him.2.1 g).c hW (fun q h1 h2 => hfar q (by omega) (by omega))
  · exact absurd (vR_k (by decide)) (zB_0 h6)

set_option maxHeartbeats 4000000 in
set_option maxRecDepth 100000 in
theorem k_X7_back_1 (G : zG) {D E : Nat} {Λ : zLd} {late : Nat} {tr : Int64} {t : zTx} {m : zMo} {im : Nat → Nat × zMo} {l : zLt} {r : zWr} {mi : zFi} {ml : zFl} {mr : zFr} (hr : zRf mr D E) (hX : zX mi ml D Λ late tr t m im l r) (hF : zWf Λ late t m im l r) : zMet G 3 yX7_back cX7_back 2 (some .int) [.ref 0, .int (nI 1)] 238 mi ml mr 238 (zPi fun x a b c => x = sBack m im (nI 1) ∧ zX a b D Λ late tr t (sBackM m im (nI 1)) im l r ∧ (∀ q, 224 ≤ q → a q = mi q) ∧ b = ml ∧ c = mr) := by
  obtain ⟨hΛ, hlate, htr, ht, hm, him, hl, hw, hn72⟩ := id hX
  obtain ⟨hW, hla30, htw, hmw, himw, hlw, hrw⟩ := id hF
  have hP3 := hW.1.1
  have hW5 := hW.1.2.1
  have hy99 := hmw.1
  have hD9 := hr.Dl
  refine z_intro ([.ref 0, .int (nI 1)]) (by decide) rfl (Nat.le_of_ble_eq_true rfl) ?_
  refine e_iload_n 1 dX7_back_0 rfl rfl ?_
  refine e_iconst 2 hic_0 dX7_back_1 rfl ?_
  refine e_iconst 3 hic_1 dX7_back_2 rfl ?_
  refine c_Sqi 6 dX7_back_3 (k_X7_btw G (by decide) (by decide)) lm_X7_80 zt_yX7_between rfl rfl rfl (Nat.le_of_ble_eq_true rfl) (Nat.le_of_ble_eq_true rfl) (Nat.le_of_ble_eq_true rfl) (Nat.le_refl _) (Nat.le_refl _) ?_
  refine e_if_ne 11 9 dX7_back_6 (by decide) rfl (fun h6 => ?_) (fun h6 => ?_)
  · refine e_aload_n 12 dX7_back_11 rfl rfl ?_
    refine e_getr 15 dX7_back_12 lf_X7_27 rfl rfl rfl (by decide) hr.kept ?_
    refine e_iload_n 16 dX7_back_15 rfl rfl ?_
    refine e_zald 17 dX7_back_16 rfl (by first | rfl | assumption) (by first | decide | omega) rfl (by decide) him.1.2 ?_
    refine e_if_neN 23 20 dX7_back_17 (by decide) rfl (by have := himw 1 (by decide); omega) (fun h17 => ?_) (fun h17 => ?_)
    · have hk1 : (im 1).1 = 1 := by have := (himw 1 (by decide)).1; omega
      refine e_aload_n 24 dX7_back_23 rfl rfl ?_
      refine e_getr 27 dX7_back_24 lf_X7_19 rfl rfl rfl (by decide) hr.now ?_
      refine e_aload_n 28 dX7_back_27 rfl rfl ?_
      refine e_getr 31 dX7_back_28 lf_X7_23 rfl rfl rfl (by decide) hr.images ?_
      refine e_iload_n 32 dX7_back_31 rfl rfl ?_
      refine e_aald 33 dX7_back_32 rfl (by decide) (by decide) rfl (by decide) hr.im1 ?_
      refine c_Vv 36 (ci := 3) dX7_back_33 (k_X3_copyFrom G hr.m3 hr.m162 (by decide) hP3 hW5 (by have := ((himw 1 (by decide)).2 hk1).1; omega) ((himw 1 (by decide)).2 hk1).2.1.1 (him.2.2 hk1)) lm_X7_296 zi_yX3_copyFrom zs_yX3_copyFrom rfl (by first | rfl | assumption) (by first | decide | omega) rfl rfl rfl (Nat.le_of_ble_eq_true rfl) (Nat.le_of_ble_eq_true rfl) (Nat.le_of_ble_eq_true rfl) (Nat.le_refl _) (Nat.le_refl _) ?_
      rintro a _ _ ⟨a1, r1, rfl, rfl⟩
      refine e_aload_n 37 dX7_back_36 rfl rfl ?_
      refine e_getr 40 dX7_back_37 lf_X7_19 rfl rfl rfl (by decide) hr.now ?_
      refine e_geti 43 dX7_back_40 lf_X7_145 rfl rfl rfl (by decide) r1.1 ?_
      refine e_ireturn .int dX7_back_43 rfl rfl ?_
      have e1 : sBack m im (nI 1) = nI (im 1).2.1 := (iteP (vR_k (by decide))).trans (if_pos hk1)
      have e2 : sBackM m im (nI 1) = (im 1).2 := (iteP (vR_k (by decide))).trans (if_pos hk1)
      rw [e1, e2]
      exact ⟨_, rfl, rfl, hX.mom hW (by omega) (fun q hq => a1 q (by omega)) r1, fun q hq => a1 q (by omega), rfl, rfl⟩
    · refine e_bipush 22 hbi_m2 dX7_back_20 rfl ?_
      refine e_ireturn .int dX7_back_22 rfl rfl ?_
      have e1 : sBack m im (nI 1) = -2 := (iteP (vR_k (by decide))).trans (if_neg (show ¬ (im 1).1 = 1 by omega))
      have e2 : sBackM m im (nI 1) = m := (iteP (vR_k (by decide))).trans (if_neg (show ¬ (im 1).1 = 1 by omega))
      rw [e1, e2]
      exact ⟨_, rfl, rfl, hX, fun _ _ => rfl, rfl, rfl⟩
  · exact absurd (vR_k (by decide)) (zB_0 h6)

set_option maxHeartbeats 4000000 in
set_option maxRecDepth 100000 in
theorem k_X7_keep_d (G : zG) {D E : Nat} {Λ : zLd} {late : Nat} {tr : Int64} {t : zTx} {m : zMo} {im : Nat → Nat × zMo} {l : zLt} {r : zWr} {mi : zFi} {ml : zFl} {mr : zFr} (hr : zRf mr D E) (hX : zX mi ml D Λ late tr t m im l r) (hF : zWf Λ late t m im l r) {i : Int32} (hbad : ¬ vR i 0 1) : zMet G 3 yX7_keep cX7_keep 2 (some .int) [.ref 0, .int i] 238 mi ml mr 238 (zPi fun x a b c => x = sKeep m i ∧ zX a b D Λ late tr t m (sKeepI m im i) l r ∧ (∀ q, 224 ≤ q → a q = mi q) ∧ b = ml ∧ c = mr) := by
  obtain ⟨hΛ, hlate, htr, ht, hm, him, hl, hw, hn72⟩ := id hX
  obtain ⟨hW, hla30, htw, hmw, himw, hlw, hrw⟩ := id hF
  have hP3 := hW.1.1
  have hW5 := hW.1.2.1
  have hy99 := hmw.1
  have hD9 := hr.Dl
  refine z_intro ([.ref 0, .int i]) (by decide) rfl (Nat.le_of_ble_eq_true rfl) ?_
  refine e_iload_n 1 dX7_keep_0 rfl rfl ?_
  refine e_iconst 2 hic_0 dX7_keep_1 rfl ?_
  refine e_iconst 3 hic_1 dX7_keep_2 rfl ?_
  refine c_Sqi 6 dX7_keep_3 (k_X7_btw G (by decide) (by decide)) lm_X7_80 zt_yX7_between rfl rfl rfl (Nat.le_of_ble_eq_true rfl) (Nat.le_of_ble_eq_true rfl) (Nat.le_of_ble_eq_true rfl) (Nat.le_refl _) (Nat.le_refl _) ?_
  refine e_if_ne 11 9 dX7_keep_6 (by decide) rfl (fun h6 => ?_) (fun h6 => ?_)
  · exact absurd (zB_1 h6) hbad
  · refine e_iconst 10 hic_m1 dX7_keep_9 rfl ?_
    refine e_ireturn .int dX7_keep_10 rfl rfl ?_
    have e1 : sKeep m i = -1 := iteN hbad
    have e2 : sKeepI m im i = im := iteN hbad
    rw [e1, e2]
    exact ⟨_, rfl, rfl, hX, fun _ _ => rfl, rfl, rfl⟩

set_option maxHeartbeats 4000000 in
set_option maxRecDepth 100000 in
theorem k_X7_keep (G : zG) {D E : Nat} {Λ : zLd} {late : Nat} {tr : Int64} {t : zTx} {m : zMo} {im : Nat → Nat × zMo} {l : zLt} {r : zWr} {mi : zFi} {ml : zFl} {mr : zFr} (hr : zRf mr D E) (hX : zX mi ml D Λ late tr t m im l r) (hF : zWf Λ late t m im l r) {i : Int32} : zMet G 3 yX7_keep cX7_keep 2 (some .int) [.ref 0, .int i] 238 mi ml mr 238 (zPi fun x a b c => x = sKeep m i ∧ zX a b D Λ late tr t m (sKeepI m im i) l r ∧ (∀ q, 224 ≤ q → a q = mi q) ∧ b = ml ∧ c = mr) := by
  by_cases h : vR i 0 1
  · obtain ⟨e, h1, h2⟩ := h.nat
    rw [e]
    have h3 : zK i = 0 ∨ zK i = 1 := by omega
    rcases h3 with q | q
    · rw [q]; exact k_X7_keep_0 G hr hX hF
    · rw [q]; exact k_X7_keep_1 G hr hX hF
  · exact k_X7_keep_d G hr hX hF h
set_option maxHeartbeats 4000000 in
set_option maxRecDepth 100000 in
theorem k_X7_back_d (G : zG) {D E : Nat} {Λ : zLd} {late : Nat} {tr : Int64} {t : zTx} {m : zMo} {im : Nat → Nat × zMo} {l : zLt} {r : zWr} {mi : zFi} {ml : zFl} {mr : zFr} (hr : zRf mr D E) (hX : zX mi ml D Λ late tr t m im l r) (hF : zWf Λ late t m im l r) {i : Int32} (hbad : ¬ vR i 0 1) : zMet G 3 yX7_back cX7_back 2 (some .int) [.ref 0, .int i] 238 mi ml mr 238 (zPi fun x a b c => x = sBack m im i ∧ zX a b D Λ late tr t (sBackM m im i) im l r ∧ (∀ q, 224 ≤ q → a q = mi q) ∧ b = ml ∧ c = mr) := by
  obtain ⟨hΛ, hlate, htr, ht, hm, him, hl, hw, hn72⟩ := id hX
  obtain ⟨hW, hla30, htw, hmw, himw, hlw, hrw⟩ := id hF
  have hP3 := hW.1.1
  have hW5 := hW.1.2.1
  have hy99 := hmw.1
  have hD9 := hr.Dl
  refine z_intro ([.ref 0, .int i]) (by decide) rfl (Nat.le_of_ble_eq_true rfl) ?_
  refine e_iload_n 1 dX7_back_0 rfl rfl ?_
  refine e_iconst 2 hic_0 dX7_back_1 rfl ?_
  refine e_iconst 3 hic_1 dX7_back_2 rfl ?_
  refine c_Sqi 6 dX7_back_3 (k_X7_btw G (by decide) (by decide)) lm_X7_80 zt_yX7_between rfl rfl rfl (Nat.le_of_ble_eq_true rfl) (Nat.le_of_ble_eq_true rfl) (Nat.le_of_ble_eq_true rfl) (Nat.le_refl _) (Nat.le_refl _) ?_
  refine e_if_ne 11 9 dX7_back_6 (by decide) rfl (fun h6 => ?_) (fun h6 => ?_)
  · exact absurd (zB_1 h6) hbad
  · refine e_iconst 10 hic_m1 dX7_back_9 rfl ?_
    refine e_ireturn .int dX7_back_10 rfl rfl ?_
    have e1 : sBack m im i = -1 := iteN hbad
    have e2 : sBackM m im i = m := iteN hbad
    rw [e1, e2]
    exact ⟨_, rfl, rfl, hX, fun _ _ => rfl, rfl, rfl⟩

set_option maxHeartbeats 4000000 in
set_option maxRecDepth 100000 in
theorem k_X7_back (G : zG) {D E : Nat} {Λ : zLd} {late : Nat} {tr : Int64} {t : zTx} {m : zMo} {im : Nat → Nat × zMo} {l : zLt} {r : zWr} {mi : zFi} {ml : zFl} {mr : zFr} (hr : zRf mr D E) (hX : zX mi ml D Λ late tr t m im l r) (hF : zWf Λ late t m im l r) {i : Int32} : zMet G 3 yX7_back cX7_back 2 (some .int) [.ref 0, .int i] 238 mi ml mr 238 (zPi fun x a b c => x = sBack m im i ∧ zX a b D Λ late tr t (sBackM m im i) im l r ∧ (∀ q, 224 ≤ q → a q = mi q) ∧ b = ml ∧ c = mr) := by
  by_cases h : vR i 0 1
  · obtain ⟨e, h1, h2⟩ := h.nat
    rw [e]
    have h3 : zK i = 0 ∨ zK i = 1 := by omega
    rcases h3 with q | q
    · rw [q]; exact k_X7_back_0 G hr hX hF
    · rw [q]; exact k_X7_back_1 G hr hX hF
  · exact k_X7_back_d G hr hX hF h
