theorem sWord_k {Λ : zLd} {y k : Nat} {w : Int32} (h : vN w (Λ 0 1)) (hk : k < 4) : sWord Λ y w (nI k) = nI (Λ (2 + k) (zK w)) := by
  unfold sWord
  rw [iteP h, iteP ((vN_nI (by omega)).mpr (by omega)), zK_nI (by omega), if_neg (by omega)]
theorem sWord_4 {Λ : zLd} {y : Nat} {w : Int32} (h : vN w (Λ 0 1)) : sWord Λ y w (nI 4) = nI (if Λ 3 (zK w) ≤ y then 1 else 0) := by
  unfold sWord
  rw [iteP h, iteP ((vN_nI (by decide)).mpr (by decide)), zK_nI (by decide), if_pos rfl]
theorem sWord_b {Λ : zLd} {y : Nat} {w what : Int32} (h : ¬ vN w (Λ 0 1)) : sWord Λ y w what = -1 := iteN h
theorem sWord_c {Λ : zLd} {y : Nat} {w what : Int32} (h : ¬ vN what 5) : sWord Λ y w what = -1 := by
  unfold sWord
  by_cases q : vN w (Λ 0 1)
  · rw [iteP q, iteN h]
  · rw [iteN q]
theorem someI {a b : Int32} (h : b = a) : (some (Value.int a)) = some (Value.int b) := by rw [h]
set_option maxHeartbeats 4000000 in
set_option maxRecDepth 100000 in
theorem k_X7_word_0 (G : zG) {D E : Nat} {Λ : zLd} {late : Nat} {tr : Int64} {t : zTx} {m : zMo} {im : Nat → Nat × zMo} {l : zLt} {r : zWr} {mi : zFi} {ml : zFl} {mr : zFr} (hr : zRf mr D E) (hX : zX mi ml D Λ late tr t m im l r) (hF : zWf Λ late t m im l r) {w : Int32} : zMet G 2 yX7_word cX7_word 3 (some .int) [.ref 0, .int w, .int (nI 0)] 238 mi ml mr 238 (zPq (some (.int (sWord Λ m.1 w (nI 0)))) mi ml mr) := by
  obtain ⟨hΛ, hlate, htr, ht, hm, him, hl, hw, hn72⟩ := id hX
  obtain ⟨hW, hla30, htw, hmw, himw, hlw, hrw⟩ := id hF
  have hP3 := hW.1.1
  have hW5 := hW.1.2.1
  have hy99 := hmw.1
  have hD9 := hr.Dl
  refine z_intro ([.ref 0, .int w, .int (nI 0)]) (by decide) rfl (Nat.le_of_ble_eq_true rfl) ?_
  refine e_aload_n 1 dX7_word_0 rfl rfl ?_
  refine e_iload_n 2 dX7_word_1 rfl rfl ?_
  refine c_Vqi 5 (ci := 7) dX7_word_2 (k_X7_isWord G hr hΛ hW) lm_X7_126 zi_yX7_isWord zs_yX7_isWord rfl (by first | rfl | assumption) (by first | decide | omega) rfl rfl rfl (Nat.le_of_ble_eq_true rfl) (Nat.le_of_ble_eq_true rfl) (Nat.le_of_ble_eq_true rfl) (Nat.le_refl _) (Nat.le_refl _) ?_
  refine e_if_ne 10 8 dX7_word_5 (by decide) rfl (fun h5 => ?_) (fun h5 => ?_)
  · have h5 := zB_1 h5
    obtain ⟨ew, hw9⟩ := h5.nat
    rw [ew]
    refine e_iload_n 11 dX7_word_10 rfl rfl ?_
    refine e_tableIn 44 (off := 33) dX7_word_11 (by decide) (by decide) (by decide) (by decide) ?_
    refine e_aload_n 45 dX7_word_44 rfl rfl ?_
    refine e_getr 48 dX7_word_45 lf_X7_62 rfl rfl rfl (by decide) hr.land ?_
    refine e_getr 51 dX7_word_48 lf_X7_129 rfl rfl hr.dD.k0 hr.dD.l0 hr.dD.r2 ?_
    refine e_iload_n 52 dX7_word_51 rfl rfl ?_
    refine e_iald 53 dX7_word_52 rfl hr.dD.k2 (hr.dD.l (j := 2) (by decide)) rfl (by rw [hr.dD.n2]; omega) (hΛ.2.2 _ hw9).1 ?_
    refine e_ireturn .int dX7_word_53 rfl rfl ?_
    rw [← ew]
    exact ⟨someI (sWord_k h5 (by decide)), rfl, rfl, rfl⟩
  · have h5 := zB_0 h5
    refine e_iconst 9 hic_m1 dX7_word_8 rfl ?_
    refine e_ireturn .int dX7_word_9 rfl rfl ?_
    exact ⟨someI (sWord_b h5), rfl, rfl, rfl⟩

set_option maxHeartbeats 4000000 in
set_option maxRecDepth 100000 in
theorem k_X7_word_1 (G : zG) {D E : Nat} {Λ : zLd} {late : Nat} {tr : Int64} {t : zTx} {m : zMo} {im : Nat → Nat × zMo} {l : zLt} {r : zWr} {mi : zFi} {ml : zFl} {mr : zFr} (hr : zRf mr D E) (hX : zX mi ml D Λ late tr t m im l r) (hF : zWf Λ late t m im l r) {w : Int32} : zMet G 2 yX7_word cX7_word 3 (some .int) [.ref 0, .int w, .int (nI 1)] 238 mi ml mr 238 (zPq (some (.int (sWord Λ m.1 w (nI 1)))) mi ml mr) := by
  obtain ⟨hΛ, hlate, htr, ht, hm, him, hl, hw, hn72⟩ := id hX
  obtain ⟨hW, hla30, htw, hmw, himw, hlw, hrw⟩ := id hF
  have hP3 := hW.1.1
  have hW5 := hW.1.2.1
  have hy99 := hmw.1
  have hD9 := hr.Dl
  refine z_intro ([.ref 0, .int w, .int (nI 1)]) (by decide) rfl (Nat.le_of_ble_eq_true rfl) ?_
  refine e_aload_n 1 dX7_word_0 rfl rfl ?_
  refine e_iload_n 2 dX7_word_1 rfl rfl ?_
  refine c_Vqi 5 (ci := 7) dX7_word_2 (k_X7_isWord G hr hΛ hW) lm_X7_126 zi_yX7_isWord zs_yX7_isWord rfl (by first | rfl | assumption) (by first | decide | omega) rfl rfl rfl (Nat.le_of_ble_eq_true rfl) (Nat.le_of_ble_eq_true rfl) (Nat.le_of_ble_eq_true rfl) (Nat.le_refl _) (Nat.le_refl _) ?_
  refine e_if_ne 10 8 dX7_word_5 (by decide) rfl (fun h5 => ?_) (fun h5 => ?_)
  · have h5 := zB_1 h5
    obtain ⟨ew, hw9⟩ := h5.nat
    rw [ew]
    refine e_iload_n 11 dX7_word_10 rfl rfl ?_
    refine e_tableIn 54 (off := 43) dX7_word_11 (by decide) (by decide) (by decide) (by decide) ?_
    refine e_aload_n 55 dX7_word_54 rfl rfl ?_
    refine e_getr 58 dX7_word_55 lf_X7_62 rfl rfl rfl (by decide) hr.land ?_
    refine e_getr 61 dX7_word_58 lf_X7_133 rfl rfl hr.dD.k0 hr.dD.l0 hr.dD.r3 ?_
    refine e_iload_n 62 dX7_word_61 rfl rfl ?_
    refine e_iald 63 dX7_word_62 rfl hr.dD.k3 (hr.dD.l (j := 3) (by decide)) rfl (by rw [hr.dD.n3]; omega) (hΛ.2.2 _ hw9).2.1 ?_
    refine e_ireturn .int dX7_word_63 rfl rfl ?_
    rw [← ew]
    exact ⟨someI (sWord_k h5 (by decide)), rfl, rfl, rfl⟩
  · have h5 := zB_0 h5
    refine e_iconst 9 hic_m1 dX7_word_8 rfl ?_
    refine e_ireturn .int dX7_word_9 rfl rfl ?_
    exact ⟨someI (sWord_b h5), rfl, rfl, rfl⟩

set_option maxHeartbeats 4000000 in
set_option maxRecDepth 100000 in
theorem k_X7_word_2 (G : zG) {D E : Nat} {Λ : zLd} {late : Nat} {tr : Int64} {t : zTx} {m : zMo} {im : Nat → Nat × zMo} {l : zLt} {r : zWr} {mi : zFi} {ml : zFl} {mr : zFr} (hr : zRf mr D E) (hX : zX mi ml D Λ late tr t m im l r) (hF : zWf Λ late t m im l r) {w : Int32} : zMet G 2 yX7_word cX7_word 3 (some .int) [.ref 0, .int w, .int (nI 2)] 238 mi ml mr 238 (zPq (some (.int (sWord Λ m.1 w (nI 2)))) mi ml mr) := by
  obtain ⟨hΛ, hlate, htr, ht, hm, him, hl, hw, hn72⟩ := id hX
  obtain ⟨hW, hla30, htw, hmw, himw, hlw, hrw⟩ := id hF
  have hP3 := hW.1.1
  have hW5 := hW.1.2.1
  have hy99 := hmw.1
  have hD9 := hr.Dl
  refine z_intro ([.ref 0, .int w, .int (nI 2)]) (by decide) rfl (Nat.le_of_ble_eq_true rfl) ?_
  refine e_aload_n 1 dX7_word_0 rfl rfl ?_
  refine e_iload_n 2 dX7_word_1 rfl rfl ?_
  refine c_Vqi 5 (ci := 7) dX7_word_2 (k_X7_isWord G hr hΛ hW) lm_X7_126 zi_yX7_isWord zs_yX7_isWord rfl (by first | rfl | assumption) (by first | decide | omega) rfl rfl rfl (Nat.le_of_ble_eq_true rfl) (Nat.le_of_ble_eq_true rfl) (Nat.le_of_ble_eq_true rfl) (Nat.le_refl _) (Nat.le_refl _) ?_
  refine e_if_ne 10 8 dX7_word_5 (by decide) rfl (fun h5 => ?_) (fun h5 => ?_)
  · have h5 := zB_1 h5
    obtain ⟨ew, hw9⟩ := h5.nat
    rw [ew]
    refine e_iload_n 11 dX7_word_10 rfl rfl ?_
    refine e_tableIn 64 (off := 53) dX7_word_11 (by decide) (by decide) (by decide) (by decide) ?_
    refine e_aload_n 65 dX7_word_64 rfl rfl ?_
    refine e_getr 68 dX7_word_65 lf_X7_62 rfl rfl rfl (by decide) hr.land ?_
    refine e_getr 71 dX7_word_68 lf_X7_136 rfl rfl hr.dD.k0 hr.dD.l0 hr.dD.r4 ?_
    refine e_iload_n 72 dX7_word_71 rfl rfl ?_
    refine e_iald 73 dX7_word_72 rfl hr.dD.k4 (hr.dD.l (j := 4) (by decide)) rfl (by rw [hr.dD.n4]; omega) (hΛ.2.2 _ hw9).2.2.1 ?_
    refine e_ireturn .int dX7_word_73 rfl rfl ?_
    rw [← ew]
    exact ⟨someI (sWord_k h5 (by decide)), rfl, rfl, rfl⟩
  · have h5 := zB_0 h5
    refine e_iconst 9 hic_m1 dX7_word_8 rfl ?_
    refine e_ireturn .int dX7_word_9 rfl rfl ?_
    exact ⟨someI (sWord_b h5), rfl, rfl, rfl⟩

set_option maxHeartbeats 4000000 in
set_option maxRecDepth 100000 in
theorem k_X7_word_3 (G : zG) {D E : Nat} {Λ : zLd} {late : Nat} {tr : Int64} {t : zTx} {m : zMo} {im : Nat → Nat × zMo} {l : zLt} {r : zWr} {mi : zFi} {ml : zFl} {mr : zFr} (hr : zRf mr D E) (hX : zX mi ml D Λ late tr t m im l r) (hF : zWf Λ late t m im l r) {w : Int32} : zMet G 2 yX7_word cX7_word 3 (some .int) [.ref 0, .int w, .int (nI 3)] 238 mi ml mr 238 (zPq (some (.int (sWord Λ m.1 w (nI 3)))) mi ml mr) := by
  obtain ⟨hΛ, hlate, htr, ht, hm, him, hl, hw, hn72⟩ := id hX
  obtain ⟨hW, hla30, htw, hmw, himw, hlw, hrw⟩ := id hF
  have hP3 := hW.1.1
  have hW5 := hW.1.2.1
  have hy99 := hmw.1
  have hD9 := hr.Dl
  refine z_intro ([.ref 0, .int w, .int (nI 3)]) (by decide) rfl (Nat.le_of_ble_eq_true rfl) ?_
  refine e_aload_n 1 dX7_word_0 rfl rfl ?_
  refine e_iload_n 2 dX7_word_1 rfl rfl ?_
  refine c_Vqi 5 (ci := 7) dX7_word_2 (k_X7_isWord G hr hΛ hW) lm_X7_126 zi_yX7_isWord zs_yX7_isWord rfl (by first | rfl | assumption) (by first | decide | omega) rfl rfl rfl (Nat.le_of_ble_eq_true rfl) (Nat.le_of_ble_eq_true rfl) (Nat.le_of_ble_eq_true rfl) (Nat.le_refl _) (Nat.le_refl _) ?_
  refine e_if_ne 10 8 dX7_word_5 (by decide) rfl (fun h5 => ?_) (fun h5 => ?_)
  · have h5 := zB_1 h5
    obtain ⟨ew, hw9⟩ := h5.nat
    rw [ew]
    refine e_iload_n 11 dX7_word_10 rfl rfl ?_
    refine e_tableIn 74 (off := 63) dX7_word_11 (by decide) (by decide) (by decide) (by decide) ?_
    refine e_aload_n 75 dX7_word_74 rfl rfl ?_
    refine e_getr 78 dX7_word_75 lf_X7_62 rfl rfl rfl (by decide) hr.land ?_
    refine e_getr 81 dX7_word_78 lf_X7_139 rfl rfl hr.dD.k0 hr.dD.l0 hr.dD.r5 ?_
    refine e_iload_n 82 dX7_word_81 rfl rfl ?_
    refine e_zald 83 dX7_word_82 rfl hr.dD.k5 (hr.dD.l (j := 5) (by decide)) rfl (by rw [hr.dD.n5]; omega) (hΛ.2.2 _ hw9).2.2.2 ?_
    refine e_if_eqN 90 86 dX7_word_83 (by decide) rfl (by have := hW.2.2 _ hw9; omega) (fun h83 => ?_) (fun h83 => ?_)
    · refine e_iconst 91 hic_0 dX7_word_90 rfl ?_
      refine e_ireturn .int dX7_word_91 rfl rfl ?_
      rw [← ew]
      refine ⟨someI ((sWord_k h5 (by decide)).trans ?_), rfl, rfl, rfl⟩
      exact congrArg nI (by have h9 := (hW.2.2 _ hw9).2.2.2; show Λ 5 (zK w) = _; omega)
    · refine e_iconst 87 hic_1 dX7_word_86 rfl ?_
      refine e_goto 91 dX7_word_87 (by decide) ?_
      refine e_ireturn .int dX7_word_91 rfl rfl ?_
      rw [← ew]
      refine ⟨someI ((sWord_k h5 (by decide)).trans ?_), rfl, rfl, rfl⟩
      exact congrArg nI (by have h9 := (hW.2.2 _ hw9).2.2.2; show Λ 5 (zK w) = _; omega)
  · have h5 := zB_0 h5
    refine e_iconst 9 hic_m1 dX7_word_8 rfl ?_
    refine e_ireturn .int dX7_word_9 rfl rfl ?_
    exact ⟨someI (sWord_b h5), rfl, rfl, rfl⟩

set_option maxHeartbeats 4000000 in
set_option maxRecDepth 100000 in
theorem k_X7_word_4 (G : zG) {D E : Nat} {Λ : zLd} {late : Nat} {tr : Int64} {t : zTx} {m : zMo} {im : Nat → Nat × zMo} {l : zLt} {r : zWr} {mi : zFi} {ml : zFl} {mr : zFr} (hr : zRf mr D E) (hX : zX mi ml D Λ late tr t m im l r) (hF : zWf Λ late t m im l r) {w : Int32} : zMet G 2 yX7_word cX7_word 3 (some .int) [.ref 0, .int w, .int (nI 4)] 238 mi ml mr 238 (zPq (some (.int (sWord Λ m.1 w (nI 4)))) mi ml mr) := by
  obtain ⟨hΛ, hlate, htr, ht, hm, him, hl, hw, hn72⟩ := id hX
  obtain ⟨hW, hla30, htw, hmw, himw, hlw, hrw⟩ := id hF
  have hP3 := hW.1.1
  have hW5 := hW.1.2.1
  have hy99 := hmw.1
  have hD9 := hr.Dl
  refine z_intro ([.ref 0, .int w, .int (nI 4)]) (by decide) rfl (Nat.le_of_ble_eq_true rfl) ?_
  refine e_aload_n 1 dX7_word_0 rfl rfl ?_
  refine e_iload_n 2 dX7_word_1 rfl rfl ?_
  refine c_Vqi 5 (ci := 7) dX7_word_2 (k_X7_isWord G hr hΛ hW) lm_X7_126 zi_yX7_isWord zs_yX7_isWord rfl (by first | rfl | assumption) (by first | decide | omega) rfl rfl rfl (Nat.le_of_ble_eq_true rfl) (Nat.le_of_ble_eq_true rfl) (Nat.le_of_ble_eq_true rfl) (Nat.le_refl _) (Nat.le_refl _) ?_
  refine e_if_ne 10 8 dX7_word_5 (by decide) rfl (fun h5 => ?_) (fun h5 => ?_)
  · have h5 := zB_1 h5
    obtain ⟨ew, hw9⟩ := h5.nat
    rw [ew]
    refine e_iload_n 11 dX7_word_10 rfl rfl ?_
    refine e_tableIn 92 (off := 81) dX7_word_11 (by decide) (by decide) (by decide) (by decide) ?_
    refine e_aload_n 93 dX7_word_92 rfl rfl ?_
    refine e_iload_n 94 dX7_word_93 rfl rfl ?_
    refine c_Vqi 97 (ci := 7) dX7_word_94 (k_X7_isCoined G hr hΛ hW hw9 hm.1 hy99) lm_X7_142 zi_yX7_isCoined zs_yX7_isCoined rfl (by first | rfl | assumption) (by first | decide | omega) rfl rfl rfl (Nat.le_of_ble_eq_true rfl) (Nat.le_of_ble_eq_true rfl) (Nat.le_of_ble_eq_true rfl) (Nat.le_refl _) (Nat.le_refl _) ?_
    refine e_if_eq 104 100 dX7_word_97 (by decide) rfl (fun h97 => ?_) (fun h97 => ?_)
    · have h97 := zB_0 h97
      refine e_iconst 105 hic_0 dX7_word_104 rfl ?_
      refine e_ireturn .int dX7_word_105 rfl rfl ?_
      rw [← ew]
      refine ⟨someI ((sWord_4 h5).trans ?_), rfl, rfl, rfl⟩
      first | rw [if_pos h97] | rw [if_neg h97]
    · have h97 := zB_1 h97
      refine e_iconst 101 hic_1 dX7_word_100 rfl ?_
      refine e_goto 105 dX7_word_101 (by decide) ?_
      refine e_ireturn .int dX7_word_105 rfl rfl ?_
      rw [← ew]
      refine ⟨someI ((sWord_4 h5).trans ?_), rfl, rfl, rfl⟩
      first | rw [if_pos h97] | rw [if_neg h97]
  · have h5 := zB_0 h5
    refine e_iconst 9 hic_m1 dX7_word_8 rfl ?_
    refine e_ireturn .int dX7_word_9 rfl rfl ?_
    exact ⟨someI (sWord_b h5), rfl, rfl, rfl⟩

set_option maxHeartbeats 4000000 in
set_option maxRecDepth 100000 in
theorem k_X7_word_d (G : zG) {D E : Nat} {Λ : zLd} {late : Nat} {tr : Int64} {t : zTx} {m : zMo} {im : Nat → Nat × zMo} {l : zLt} {r : zWr} {mi : zFi} {ml : zFl} {mr : zFr} (hr : zRf mr D E) (hX : zX mi ml D Λ late tr t m im l r) (hF : zWf Λ late t m im l r) {w what : Int32} (hbad : ¬ vN what 5) : zMet G 2 yX7_word cX7_word 3 (some .int) [.ref 0, .int w, .int what] 238 mi ml mr 238 (zPq (some (.int (sWord Λ m.1 w what))) mi ml mr) := by
  obtain ⟨hΛ, hlate, htr, ht, hm, him, hl, hw, hn72⟩ := id hX
  obtain ⟨hW, hla30, htw, hmw, himw, hlw, hrw⟩ := id hF
  have hP3 := hW.1.1
  have hW5 := hW.1.2.1
  have hy99 := hmw.1
  have hD9 := hr.Dl
  refine z_intro ([.ref 0, .int w, .int what]) (by decide) rfl (Nat.le_of_ble_eq_true rfl) ?_
  refine e_aload_n 1 dX7_word_0 rfl rfl ?_
  refine e_iload_n 2 dX7_word_1 rfl rfl ?_
  refine c_Vqi 5 (ci := 7) dX7_word_2 (k_X7_isWord G hr hΛ hW) lm_X7_126 zi_yX7_isWord zs_yX7_isWord rfl (by first | rfl | assumption) (by first | decide | omega) rfl rfl rfl (Nat.le_of_ble_eq_true rfl) (Nat.le_of_ble_eq_true rfl) (Nat.le_of_ble_eq_true rfl) (Nat.le_refl _) (Nat.le_refl _) ?_
  refine e_if_ne 10 8 dX7_word_5 (by decide) rfl (fun h5 => ?_) (fun h5 => ?_)
  · have h5 := zB_1 h5
    obtain ⟨ew, hw9⟩ := h5.nat
    rw [ew]
    refine e_iload_n 11 dX7_word_10 rfl rfl ?_
    refine e_tableOut 106 dX7_word_11 (by have := vN_out hbad; omega) (by decide) ?_
    refine e_iconst 107 hic_m1 dX7_word_106 rfl ?_
    refine e_ireturn .int dX7_word_107 rfl rfl ?_
    rw [← ew]
    exact ⟨someI (sWord_c hbad), rfl, rfl, rfl⟩
  · have h5 := zB_0 h5
    refine e_iconst 9 hic_m1 dX7_word_8 rfl ?_
    refine e_ireturn .int dX7_word_9 rfl rfl ?_
    exact ⟨someI (sWord_b h5), rfl, rfl, rfl⟩

set_option maxHeartbeats 4000000 in
set_option maxRecDepth 100000 in
theorem k_X7_word (G : zG) {D E : Nat} {Λ : zLd} {late : Nat} {tr : Int64} {t : zTx} {m : zMo} {im : Nat → Nat × zMo} {l : zLt} {r : zWr} {mi : zFi} {ml : zFl} {mr : zFr} (hr : zRf mr D E) (hX : zX mi ml D Λ late tr t m im l r) (hF : zWf Λ late t m im l r) {w what : Int32} : zMet G 2 yX7_word cX7_word 3 (some .int) [.ref 0, .int w, .int what] 238 mi ml mr 238 (zPq (some (.int (sWord Λ m.1 w what))) mi ml mr) := by
  by_cases h : vN what 5
  · obtain ⟨e, hk⟩ := h.nat
    rw [e]
    have h5 : zK what = 0 ∨ zK what = 1 ∨ zK what = 2 ∨ zK what = 3 ∨ zK what = 4 := by omega
    rcases h5 with q | q | q | q | q
    · rw [q]; exact k_X7_word_0 G hr hX hF
    · rw [q]; exact k_X7_word_1 G hr hX hF
    · rw [q]; exact k_X7_word_2 G hr hX hF
    · rw [q]; exact k_X7_word_3 G hr hX hF
    · rw [q]; exact k_X7_word_4 G hr hX hF
  · exact k_X7_word_d G hr hX hF h

set_option maxHeartbeats 4000000 in
set_option maxRecDepth 100000 in
theorem k_X7_clear (G : zG) {D E : Nat} {Λ : zLd} {late : Nat} {tr : Int64} {t : zTx} {m : zMo} {im : Nat → Nat × zMo} {l : zLt} {r : zWr} {mi : zFi} {ml : zFl} {mr : zFr} (hr : zRf mr D E) (hX : zX mi ml D Λ late tr t m im l r) (hF : zWf Λ late t m im l r) : zMet G 0 yX7_clear cX7_clear 2 (some .int) [.ref 0] 238 mi ml mr 238 (zPi fun x a b c => x = nI t.1 ∧ zX a b D Λ late tr (0, t.2) m im l r ∧ (∀ q, 224 ≤ q → a q = mi q) ∧ b = ml ∧ c = mr) := by
  obtain ⟨hΛ, hlate, htr, ht, hm, him, hl, hw, hn72⟩ := id hX
  obtain ⟨hW, hla30, htw, hmw, himw, hlw, hrw⟩ := id hF
  have hP3 := hW.1.1
  have hW5 := hW.1.2.1
  have hy99 := hmw.1
  have hD9 := hr.Dl
  refine z_intro ([.ref 0, zx]) (by decide) rfl (Nat.le_of_ble_eq_true rfl) ?_
  refine e_aload_n 1 dX7_clear_0 rfl rfl ?_
  refine e_getr 4 dX7_clear_1 lf_X7_10 rfl rfl rfl (by decide) hr.reader ?_
  refine e_geti 7 dX7_clear_4 lf_X7_88 rfl rfl rfl (by decide) ht.1 ?_
  refine e_istore_n 8 dX7_clear_7 rfl (by decide) (zst1_1 rfl) ?_
  refine e_aload_n 9 dX7_clear_8 rfl rfl ?_
  refine e_getr 12 dX7_clear_9 lf_X7_10 rfl rfl rfl (by decide) hr.reader ?_
  refine e_iconst 13 hic_0 dX7_clear_12 rfl ?_
  refine e_puti 16 dX7_clear_13 lf_X7_88 rfl rfl rfl rfl rfl (by decide) ?_
  refine e_iload_n 17 dX7_clear_16 rfl rfl ?_
  refine e_ireturn .int dX7_clear_17 rfl rfl ?_
  exact ⟨_, rfl, rfl, ⟨hΛ.congr (fun j hj => zp_r _ _ _ (by omega)), (by rw [zp_r _ _ _ (by decide)]; exact hlate), htr, ⟨zp_s _ _ _ _, fun k hk => absurd hk (Nat.not_lt_zero _)⟩, hm.c hW (fun q h1 h2 => zp_r _ _ _ (by omega)), him.c hW (zp_r _ _ _ (by decide)) (fun q h1 h2 => zp_r _ _ _ (by omega)), hl.c (zp_r _ _ _ (by decide)), hw.c (zp_r _ _ _ (by decide)) (zp_r _ _ _ (by decide)) (zp_r _ _ _ (by decide)), (by rw [zp_r _ _ _ (by decide)]; exact hn72)⟩, fun q hq => zp_r _ _ _ (by omega), rfl, rfl⟩

def sCount (Λ : zLd) (t : zTx) (m : zMo) (r : zWr) (what : Int32) : Int32 := @ite _ (vN what 6) (vN_dec _ _) (nI (if zK what = 0 then Λ 0 0 else if zK what = 1 then Λ 0 1 else if zK what = 2 then m.1 else if zK what = 3 then m.2.2.1 0 0 else if zK what = 4 then r.1 else t.1)) (-1)
set_option maxHeartbeats 4000000 in
set_option maxRecDepth 100000 in
theorem k_X7_count_0 (G : zG) {D E : Nat} {Λ : zLd} {late : Nat} {tr : Int64} {t : zTx} {m : zMo} {im : Nat → Nat × zMo} {l : zLt} {r : zWr} {mi : zFi} {ml : zFl} {mr : zFr} (hr : zRf mr D E) (hX : zX mi ml D Λ late tr t m im l r) (hF : zWf Λ late t m im l r)  : zMet G 0 yX7_count cX7_count 2 (some .int) [.ref 0, .int (nI 0)] 238 mi ml mr 238 (zPq (some (.int (sCount Λ t m r (nI 0)))) mi ml mr) := by
  obtain ⟨hΛ, hlate, htr, ht, hm, him, hl, hw, hn72⟩ := id hX
  obtain ⟨hW, hla30, htw, hmw, himw, hlw, hrw⟩ := id hF
  have hP3 := hW.1.1
  have hW5 := hW.1.2.1
  have hy99 := hmw.1
  have hD9 := hr.Dl
  refine z_intro ([.ref 0, .int (nI 0)]) (by decide) rfl (Nat.le_of_ble_eq_true rfl) ?_
  refine e_iload_n 1 dX7_count_0 rfl rfl ?_
  refine e_tableIn 40 (off := 39) dX7_count_1 (by decide) (by decide) (by decide) (by decide) ?_
  refine e_aload_n 41 dX7_count_40 rfl rfl ?_
  refine e_getr 44 dX7_count_41 lf_X7_62 rfl rfl rfl (by decide) hr.land ?_
  refine e_geti 47 dX7_count_44 lf_X7_184 rfl rfl hr.dD.k0 hr.dD.l0 (hΛ.f0) ?_
  refine e_ireturn .int dX7_count_47 rfl rfl ?_
  exact ⟨rfl, rfl, rfl, rfl⟩

set_option maxHeartbeats 4000000 in
set_option maxRecDepth 100000 in
theorem k_X7_count_1 (G : zG) {D E : Nat} {Λ : zLd} {late : Nat} {tr : Int64} {t : zTx} {m : zMo} {im : Nat → Nat × zMo} {l : zLt} {r : zWr} {mi : zFi} {ml : zFl} {mr : zFr} (hr : zRf mr D E) (hX : zX mi ml D Λ late tr t m im l r) (hF : zWf Λ late t m im l r)  : zMet G 0 yX7_count cX7_count 2 (some .int) [.ref 0, .int (nI 1)] 238 mi ml mr 238 (zPq (some (.int (sCount Λ t m r (nI 1)))) mi ml mr) := by
  obtain ⟨hΛ, hlate, htr, ht, hm, him, hl, hw, hn72⟩ := id hX
  obtain ⟨hW, hla30, htw, hmw, himw, hlw, hrw⟩ := id hF
  have hP3 := hW.1.1
  have hW5 := hW.1.2.1
  have hy99 := hmw.1
  have hD9 := hr.Dl
  refine z_intro ([.ref 0, .int (nI 1)]) (by decide) rfl (Nat.le_of_ble_eq_true rfl) ?_
  refine e_iload_n 1 dX7_count_0 rfl rfl ?_
  refine e_tableIn 48 (off := 47) dX7_count_1 (by decide) (by decide) (by decide) (by decide) ?_
  refine e_aload_n 49 dX7_count_48 rfl rfl ?_
  refine e_getr 52 dX7_count_49 lf_X7_62 rfl rfl rfl (by decide) hr.land ?_
  refine e_geti 55 dX7_count_52 lf_X7_222 rfl rfl hr.dD.k0 hr.dD.l0 (hΛ.f1) ?_
  refine e_ireturn .int dX7_count_55 rfl rfl ?_
  exact ⟨rfl, rfl, rfl, rfl⟩

set_option maxHeartbeats 4000000 in
set_option maxRecDepth 100000 in
theorem k_X7_count_2 (G : zG) {D E : Nat} {Λ : zLd} {late : Nat} {tr : Int64} {t : zTx} {m : zMo} {im : Nat → Nat × zMo} {l : zLt} {r : zWr} {mi : zFi} {ml : zFl} {mr : zFr} (hr : zRf mr D E) (hX : zX mi ml D Λ late tr t m im l r) (hF : zWf Λ late t m im l r)  : zMet G 0 yX7_count cX7_count 2 (some .int) [.ref 0, .int (nI 2)] 238 mi ml mr 238 (zPq (some (.int (sCount Λ t m r (nI 2)))) mi ml mr) := by
  obtain ⟨hΛ, hlate, htr, ht, hm, him, hl, hw, hn72⟩ := id hX
  obtain ⟨hW, hla30, htw, hmw, himw, hlw, hrw⟩ := id hF
  have hP3 := hW.1.1
  have hW5 := hW.1.2.1
  have hy99 := hmw.1
  have hD9 := hr.Dl
  refine z_intro ([.ref 0, .int (nI 2)]) (by decide) rfl (Nat.le_of_ble_eq_true rfl) ?_
  refine e_iload_n 1 dX7_count_0 rfl rfl ?_
  refine e_tableIn 56 (off := 55) dX7_count_1 (by decide) (by decide) (by decide) (by decide) ?_
  refine e_aload_n 57 dX7_count_56 rfl rfl ?_
  refine e_getr 60 dX7_count_57 lf_X7_19 rfl rfl rfl (by decide) hr.now ?_
  refine e_geti 63 dX7_count_60 lf_X7_145 rfl rfl rfl (by decide) hm.1 ?_
  refine e_ireturn .int dX7_count_63 rfl rfl ?_
  exact ⟨rfl, rfl, rfl, rfl⟩

set_option maxHeartbeats 4000000 in
set_option maxRecDepth 100000 in
theorem k_X7_count_3 (G : zG) {D E : Nat} {Λ : zLd} {late : Nat} {tr : Int64} {t : zTx} {m : zMo} {im : Nat → Nat × zMo} {l : zLt} {r : zWr} {mi : zFi} {ml : zFl} {mr : zFr} (hr : zRf mr D E) (hX : zX mi ml D Λ late tr t m im l r) (hF : zWf Λ late t m im l r)  : zMet G 0 yX7_count cX7_count 2 (some .int) [.ref 0, .int (nI 3)] 238 mi ml mr 238 (zPq (some (.int (sCount Λ t m r (nI 3)))) mi ml mr) := by
  obtain ⟨hΛ, hlate, htr, ht, hm, him, hl, hw, hn72⟩ := id hX
  obtain ⟨hW, hla30, htw, hmw, himw, hlw, hrw⟩ := id hF
  have hP3 := hW.1.1
  have hW5 := hW.1.2.1
  have hy99 := hmw.1
  have hD9 := hr.Dl
  refine z_intro ([.ref 0, .int (nI 3)]) (by decide) rfl (Nat.le_of_ble_eq_true rfl) ?_
  refine e_iload_n 1 dX7_count_0 rfl rfl ?_
  refine e_tableIn 64 (off := 63) dX7_count_1 (by decide) (by decide) (by decide) (by decide) ?_
  refine e_aload_n 65 dX7_count_64 rfl rfl ?_
  refine e_getr 68 dX7_count_65 lf_X7_19 rfl rfl rfl (by decide) hr.now ?_
  refine e_getr 71 dX7_count_68 lf_X7_173 rfl rfl rfl (by decide) hr.m3.r2 ?_
  refine e_geti 74 dX7_count_71 lf_X7_176 rfl rfl rfl (by decide) hm.2.2.1.1 ?_
  refine e_ireturn .int dX7_count_74 rfl rfl ?_
  exact ⟨rfl, rfl, rfl, rfl⟩

set_option maxHeartbeats 4000000 in
set_option maxRecDepth 100000 in
theorem k_X7_count_4 (G : zG) {D E : Nat} {Λ : zLd} {late : Nat} {tr : Int64} {t : zTx} {m : zMo} {im : Nat → Nat × zMo} {l : zLt} {r : zWr} {mi : zFi} {ml : zFl} {mr : zFr} (hr : zRf mr D E) (hX : zX mi ml D Λ late tr t m im l r) (hF : zWf Λ late t m im l r)  : zMet G 0 yX7_count cX7_count 2 (some .int) [.ref 0, .int (nI 4)] 238 mi ml mr 238 (zPq (some (.int (sCount Λ t m r (nI 4)))) mi ml mr) := by
  obtain ⟨hΛ, hlate, htr, ht, hm, him, hl, hw, hn72⟩ := id hX
  obtain ⟨hW, hla30, htw, hmw, himw, hlw, hrw⟩ := id hF
  have hP3 := hW.1.1
  have hW5 := hW.1.2.1
  have hy99 := hmw.1
  have hD9 := hr.Dl
  refine z_intro ([.ref 0, .int (nI 4)]) (by decide) rfl (Nat.le_of_ble_eq_true rfl) ?_
  refine e_iload_n 1 dX7_count_0 rfl rfl ?_
  refine e_tableIn 75 (off := 74) dX7_count_1 (by decide) (by decide) (by decide) (by decide) ?_
  refine e_aload_n 76 dX7_count_75 rfl rfl ?_
  refine e_getr 79 dX7_count_76 lf_X7_41 rfl rfl rfl (by decide) hr.writings ?_
  refine e_geti 82 dX7_count_79 lf_X7_95 rfl rfl rfl (by decide) hw.1 ?_
  refine e_ireturn .int dX7_count_82 rfl rfl ?_
  exact ⟨rfl, rfl, rfl, rfl⟩

set_option maxHeartbeats 4000000 in
set_option maxRecDepth 100000 in
theorem k_X7_count_5 (G : zG) {D E : Nat} {Λ : zLd} {late : Nat} {tr : Int64} {t : zTx} {m : zMo} {im : Nat → Nat × zMo} {l : zLt} {r : zWr} {mi : zFi} {ml : zFl} {mr : zFr} (hr : zRf mr D E) (hX : zX mi ml D Λ late tr t m im l r) (hF : zWf Λ late t m im l r)  : zMet G 0 yX7_count cX7_count 2 (some .int) [.ref 0, .int (nI 5)] 238 mi ml mr 238 (zPq (some (.int (sCount Λ t m r (nI 5)))) mi ml mr) := by
  obtain ⟨hΛ, hlate, htr, ht, hm, him, hl, hw, hn72⟩ := id hX
  obtain ⟨hW, hla30, htw, hmw, himw, hlw, hrw⟩ := id hF
  have hP3 := hW.1.1
  have hW5 := hW.1.2.1
  have hy99 := hmw.1
  have hD9 := hr.Dl
  refine z_intro ([.ref 0, .int (nI 5)]) (by decide) rfl (Nat.le_of_ble_eq_true rfl) ?_
  refine e_iload_n 1 dX7_count_0 rfl rfl ?_
  refine e_tableIn 83 (off := 82) dX7_count_1 (by decide) (by decide) (by decide) (by decide) ?_
  refine e_aload_n 84 dX7_count_83 rfl rfl ?_
  refine e_getr 87 dX7_count_84 lf_X7_10 rfl rfl rfl (by decide) hr.reader ?_
  refine e_geti 90 dX7_count_87 lf_X7_88 rfl rfl rfl (by decide) ht.1 ?_
  refine e_ireturn .int dX7_count_90 rfl rfl ?_
  exact ⟨rfl, rfl, rfl, rfl⟩

set_option maxHeartbeats 4000000 in
set_option maxRecDepth 100000 in
theorem k_X7_count_d (G : zG) {D E : Nat} {Λ : zLd} {late : Nat} {tr : Int64} {t : zTx} {m : zMo} {im : Nat → Nat × zMo} {l : zLt} {r : zWr} {mi : zFi} {ml : zFl} {mr : zFr} (hr : zRf mr D E) (hX : zX mi ml D Λ late tr t m im l r) (hF : zWf Λ late t m im l r) {what : Int32} (hbad : ¬ vN what 6) : zMet G 0 yX7_count cX7_count 2 (some .int) [.ref 0, .int what] 238 mi ml mr 238 (zPq (some (.int (sCount Λ t m r what))) mi ml mr) := by
  obtain ⟨hΛ, hlate, htr, ht, hm, him, hl, hw, hn72⟩ := id hX
  obtain ⟨hW, hla30, htw, hmw, himw, hlw, hrw⟩ := id hF
  have hP3 := hW.1.1
  have hW5 := hW.1.2.1
  have hy99 := hmw.1
  have hD9 := hr.Dl
  refine z_intro ([.ref 0, .int what]) (by decide) rfl (Nat.le_of_ble_eq_true rfl) ?_
  refine e_iload_n 1 dX7_count_0 rfl rfl ?_
  refine e_tableOut 91 dX7_count_1 (by have := vN_out hbad; omega) (by decide) ?_
  refine e_iconst 92 hic_m1 dX7_count_91 rfl ?_
  refine e_ireturn .int dX7_count_92 rfl rfl ?_
  exact ⟨someI (iteN hbad), rfl, rfl, rfl⟩

set_option maxHeartbeats 4000000 in
set_option maxRecDepth 100000 in
theorem k_X7_count (G : zG) {D E : Nat} {Λ : zLd} {late : Nat} {tr : Int64} {t : zTx} {m : zMo} {im : Nat → Nat × zMo} {l : zLt} {r : zWr} {mi : zFi} {ml : zFl} {mr : zFr} (hr : zRf mr D E) (hX : zX mi ml D Λ late tr t m im l r) (hF : zWf Λ late t m im l r) {what : Int32} : zMet G 0 yX7_count cX7_count 2 (some .int) [.ref 0, .int what] 238 mi ml mr 238 (zPq (some (.int (sCount Λ t m r what))) mi ml mr) := by
  by_cases h : vN what 6
  · obtain ⟨e, hk⟩ := h.nat
    rw [e]
    have h5 : zK what = 0 ∨ zK what = 1 ∨ zK what = 2 ∨ zK what = 3 ∨ zK what = 4 ∨ zK what = 5 := by omega
    rcases h5 with q | q | q | q | q | q
    · rw [q]; exact k_X7_count_0 G hr hX hF
    · rw [q]; exact k_X7_count_1 G hr hX hF
    · rw [q]; exact k_X7_count_2 G hr hX hF
    · rw [q]; exact k_X7_count_3 G hr hX hF
    · rw [q]; exact k_X7_count_4 G hr hX hF
    · rw [q]; exact k_X7_count_5 G hr hX hF
  · exact k_X7_count_d G hr hX hF h

section ZXM
variable {mi a : zFi} {ml : zFl} {D : Nat} {Λ : zLd} {late : Nat} {tr : Int64} {t : zTx} {m m' : zMo} {im : Nat → Nat × zMo} {l : zLt} {r : zWr}
theorem zX.mom (hW : zLandW Λ) (h : zX mi ml D Λ late tr t m im l r) (hD : 65 ≤ D) (e : ∀ q, q < 3 ∨ 65 ≤ q → a q = mi q) (hm : zMoR a 3 Λ m') : zX a ml D Λ late tr t m' im l r := by
  obtain ⟨h1, h2, h3, h4, h5, h6, h7, h8, h9⟩ := h
  exact ⟨h1.congr (fun j hj => e _ (by omega)), by rw [e 0 (by decide)]; exact h2, h3, h4.c (e 1 (by decide)) (e 2 (by decide)), hm, h6.c hW (e 66 (by decide)) (fun q g1 g2 => e q (by omega)), h7.c (e 67 (by decide)), h8.c (e 69 (by decide)) (e 70 (by decide)) (e 71 (by decide)), by rw [e 72 (by decide)]; exact h9⟩
end ZXM
set_option maxHeartbeats 4000000 in
set_option maxRecDepth 100000 in
theorem k_X7_lot (G : zG) {D E : Nat} {Λ : zLd} {late : Nat} {tr : Int64} {t : zTx} {m : zMo} {im : Nat → Nat × zMo} {l : zLt} {r : zWr} {mi : zFi} {ml : zFl} {mr : zFr} (hr : zRf mr D E) (hX : zX mi ml D Λ late tr t m im l r) (hF : zWf Λ late t m im l r) {v : Int32} : zMet G 0 yX7_lot cX7_lot 3 (some .int) [.ref 0, .int v] 238 mi ml mr 238 (zPi fun x a b c => x = m.2.1 ∧ zX a b D Λ late tr t (m.1, v, m.2.2) im l r ∧ (∀ q, 224 ≤ q → a q = mi q) ∧ b = ml ∧ c = mr) := by
  obtain ⟨hΛ, hlate, htr, ht, hm, him, hl, hw, hn72⟩ := id hX
  obtain ⟨hW, hla30, htw, hmw, himw, hlw, hrw⟩ := id hF
  have hP3 := hW.1.1
  have hW5 := hW.1.2.1
  have hy99 := hmw.1
  have hD9 := hr.Dl
  refine z_intro ([.ref 0, .int v, zx]) (by decide) rfl (Nat.le_of_ble_eq_true rfl) ?_
  refine e_aload_n 1 dX7_lot_0 rfl rfl ?_
  refine e_getr 4 dX7_lot_1 lf_X7_19 rfl rfl rfl (by decide) hr.now ?_
  refine e_geti 7 dX7_lot_4 lf_X7_77 rfl rfl rfl (by decide) hm.2.1 ?_
  refine e_istore_n 8 dX7_lot_7 rfl (by decide) (zst1_2 rfl) ?_
  refine e_aload_n 9 dX7_lot_8 rfl rfl ?_
  refine e_getr 12 dX7_lot_9 lf_X7_19 rfl rfl rfl (by decide) hr.now ?_
  refine e_iload_n 13 dX7_lot_12 rfl rfl ?_
  refine e_puti 16 dX7_lot_13 lf_X7_77 rfl rfl rfl rfl rfl (by decide) ?_
  refine e_iload_n 17 dX7_lot_16 rfl rfl ?_
  refine e_ireturn .int dX7_lot_17 rfl rfl ?_
  refine ⟨_, rfl, rfl, hX.mom hW (by omega) (fun q hq => zp_r _ _ _ (by omega)) ⟨(by rw [zp_k _ _ (by decide)]; exact hm.1), zp_s _ _ _ _, hm.2.2.1.congr (fun j hj => zp_r _ _ _ (by omega)), fun w hw9 => (hm.2.2.2 w hw9).congr hP3 (fun q h1 h2 => zp_r _ _ _ (by omega))⟩, fun q hq => zp_r _ _ _ (by omega), rfl, rfl⟩

set_option maxHeartbeats 4000000 in
set_option maxRecDepth 100000 in
theorem k_X7_trace (G : zG) {D E : Nat} {Λ : zLd} {late : Nat} {tr : Int64} {t : zTx} {m : zMo} {im : Nat → Nat × zMo} {l : zLt} {r : zWr} {mi : zFi} {ml : zFl} {mr : zFr} (hr : zRf mr D E) (hX : zX mi ml D Λ late tr t m im l r) (hF : zWf Λ late t m im l r)  : zMet G 0 yX7_trace cX7_trace 1 (some .long) [.ref 0] 238 mi ml mr 238 (zPq (some (.long tr)) mi ml mr) := by
  obtain ⟨hΛ, hlate, htr, ht, hm, him, hl, hw, hn72⟩ := id hX
  obtain ⟨hW, hla30, htw, hmw, himw, hlw, hrw⟩ := id hF
  have hP3 := hW.1.1
  have hW5 := hW.1.2.1
  have hy99 := hmw.1
  have hD9 := hr.Dl
  refine z_intro ([.ref 0]) (by decide) rfl (Nat.le_of_ble_eq_true rfl) ?_
  refine e_aload_n 1 dX7_trace_0 rfl rfl ?_
  refine e_getl 4 dX7_trace_1 lf_X7_73 rfl rfl rfl (by decide) htr ?_
  refine e_lreturn dX7_trace_4 rfl ?_
  exact ⟨rfl, rfl, rfl, rfl⟩

def zYear (Λ : zLd) (m : zMo) : zMo := (m.1 + 1, m.2.1, m.2.2.1, fun w => zPass Λ m.2.2.1 (Λ 0 3) w m.1 (m.2.2.2 w))
def zYears (Λ : zLd) : Nat → zMo → zMo
  | 0, m => m
  | k + 1, m => zYears Λ k (zYear Λ m)
theorem zNote_fine {N y : Nat} {sh yg : Nat → Nat → Nat} {pm : Nat → Nat} : zFine N y (zNote N y sh yg pm) := ⟨fun p _ => zu_s _ _ _, zu_s _ _ _⟩
theorem zYear_W {Λ : zLd} {m : zMo} (hW : zLandW Λ) (h : zMoW Λ m) (hy : m.1 < 99) : zMoW Λ (zYear Λ m) := ⟨hy, h.2.1, fun w hw => ⟨zPass_W hW h.2.1 hW.1.2.2.2.1 (h.2.2 w hw).1, zNote_fine⟩⟩
theorem zYears_W {Λ : zLd} (hW : zLandW Λ) : ∀ (k : Nat) (m : zMo), zMoW Λ m → m.1 + k ≤ 99 → zMoW Λ (zYears Λ k m)
  | 0, _, h, _ => h
  | k + 1, m, h, hk => zYears_W hW k _ (zYear_W hW h (by omega)) (by show m.1 + 1 + k ≤ 99; omega)
def zAnew (Λ : zLd) (m : zMo) : zMo := (0, m.2.1, zS0, fun w => zBegin Λ zS0 w)
theorem zAnew_W {Λ : zLd} {m : zMo} (hW : zLandW Λ) : zMoW Λ (zAnew Λ m) := ⟨Nat.zero_le _, zS0_W _ _, fun w hw => ⟨zBegin_W hW (zS0_W _ _), zNote_fine⟩⟩
def sGoN (m : zMo) (n : Int32) : Nat := min (zK n) (99 - m.1)
def sGo (m : zMo) (n : Int32) : Int32 := @ite _ (vR n 1 99) (vR_dec _ _ _) (if 99 ≤ m.1 then -2 else nI (sGoN m n)) (-1)
def sGoM (Λ : zLd) (m : zMo) (n : Int32) : zMo := @ite _ (vR n 1 99) (vR_dec _ _ _) (if 99 ≤ m.1 then m else zYears Λ (sGoN m n) m) m
theorem sGoM_W {Λ : zLd} {m : zMo} {n : Int32} (hW : zLandW Λ) (h : zMoW Λ m) : zMoW Λ (sGoM Λ m n) := by
  unfold sGoM
  by_cases q : vR n 1 99
  · rw [iteP q]
    split
    · exact h
    · exact zYears_W hW _ _ h (by unfold sGoN; omega)
  · rw [iteN q]; exact h
set_option maxHeartbeats 4000000 in
set_option maxRecDepth 100000 in
theorem k_X7_anew (G : zG) {D E : Nat} {Λ : zLd} {late : Nat} {tr : Int64} {t : zTx} {m : zMo} {im : Nat → Nat × zMo} {l : zLt} {r : zWr} {mi : zFi} {ml : zFl} {mr : zFr} (hr : zRf mr D E) (hX : zX mi ml D Λ late tr t m im l r) (hF : zWf Λ late t m im l r) : zMet G 5 yX7_anew cX7_anew 2 (some .int) [.ref 0] 238 mi ml mr 238 (zPi fun x a b c => x = nI m.1 ∧ zX a b D Λ late tr t (zAnew Λ m) im l r ∧ (∀ q, 224 ≤ q → a q = mi q) ∧ b = ml ∧ c = mr) := by
  obtain ⟨hΛ, hlate, htr, ht, hm, him, hl, hw, hn72⟩ := id hX
  obtain ⟨hW, hla30, htw, hmw, himw, hlw, hrw⟩ := id hF
  have hP3 := hW.1.1
  have hW5 := hW.1.2.1
  have hy99 := hmw.1
  have hD9 := hr.Dl
  refine z_intro ([.ref 0, zx]) (by decide) rfl (Nat.le_of_ble_eq_true rfl) ?_
  refine e_aload_n 1 dX7_anew_0 rfl rfl ?_
  refine e_getr 4 dX7_anew_1 lf_X7_19 rfl rfl rfl (by decide) hr.now ?_
  refine e_geti 7 dX7_anew_4 lf_X7_145 rfl rfl rfl (by decide) hm.1 ?_
  refine e_istore_n 8 dX7_anew_7 rfl (by decide) (zst1_1 rfl) ?_
  refine e_aload_n 9 dX7_anew_8 rfl rfl ?_
  refine e_getr 12 dX7_anew_9 lf_X7_19 rfl rfl rfl (by decide) hr.now ?_
  refine e_aload_n 13 dX7_anew_12 rfl rfl ?_
  refine e_getr 16 dX7_anew_13 lf_X7_62 rfl rfl rfl (by decide) hr.land ?_
  refine c_Vv 19 (ci := 3) dX7_anew_16 (k_X3_begin G hr.m3 hr.dD hW hΛ) lm_X7_102 zi_yX3_begin zs_yX3_begin rfl (by first | rfl | assumption) (by first | decide | omega) rfl rfl rfl (Nat.le_of_ble_eq_true rfl) (Nat.le_of_ble_eq_true rfl) (Nat.le_of_ble_eq_true rfl) (Nat.le_refl _) (Nat.le_refl _) ?_
  rintro a _ _ ⟨a1, r1, rfl, rfl⟩
  refine e_iload_n 20 dX7_anew_19 rfl rfl ?_
  refine e_ireturn .int dX7_anew_20 rfl rfl ?_
  exact ⟨_, rfl, rfl, hX.mom hW (by omega) (fun q hq => a1 q (by omega)) (by have := r1; unfold zMoR zAnew; rw [← hm.2.1]; exact r1), fun q hq => a1 q (by omega), rfl, rfl⟩

set_option maxHeartbeats 4000000 in
set_option maxRecDepth 100000 in
theorem l_X7_go (G : zG) (Q : zQ) {D E : Nat} {Λ : zLd} {late : Nat} {tr : Int64} {t : zTx} {im : Nat → Nat × zMo} {l : zLt} {r : zWr} {ml : zFl} {mr : zFr} (hr : zRf mr D E) (hW : zLandW Λ) {n0 : Int32} {yrs : Nat} : ∀ (k i : Nat) (m : zMo) (s : zFi), i + k = yrs → m.1 + k ≤ 99 → zX s ml D Λ late tr t m im l r → zMoW Λ m → (∀ a, zX a ml D Λ late tr t (zYears Λ k m) im l r → (∀ q, 224 ≤ q → a q = s q) → Q (some (.int (nI yrs))) a ml mr) → yrs < 100 → zE G (zRm 5 238 238) (zQm G 238 238 Q) yX7_go.cls yX7_go.name cX7_go 4 (some .int) 238 44 [.ref 0, .int n0, .int (nI yrs), .int (nI i)] [] 238 s ml mr := by
  intro k
  induction k with
  | zero =>
    intro i m s h hi hX hmw hQ hyr
    obtain ⟨hΛ, hlate, htr, ht, hm, him, hl, hw, hn72⟩ := id hX
    have hD9 := hr.Dl
    refine e_iload_n 45 dX7_go_44 rfl rfl ?_
    refine e_iload_n 46 dX7_go_45 rfl rfl ?_
    refine e_icmp_geN 66 49 dX7_go_46 (by decide) rfl (by omega) (by omega) (fun h46 => ?_) (fun h46 => ?_)
    · refine e_iload_n 67 dX7_go_66 rfl rfl ?_
      refine e_ireturn .int dX7_go_67 rfl rfl ?_
      exact hQ s hX (fun _ _ => rfl)
    · exact absurd h46 (by omega)
  | succ k ih =>
    intro i m s h hi hX hmw hQ hyr
    obtain ⟨hΛ, hlate, htr, ht, hm, him, hl, hw, hn72⟩ := id hX
    have hD9 := hr.Dl
    refine e_iload_n 45 dX7_go_44 rfl rfl ?_
    refine e_iload_n 46 dX7_go_45 rfl rfl ?_
    refine e_icmp_geN 66 49 dX7_go_46 (by decide) rfl (by omega) (by omega) (fun h46 => ?_) (fun h46 => ?_)
    · exact absurd h46 (by omega)
    · refine e_aload_n 50 dX7_go_49 rfl rfl ?_
      refine e_getr 53 dX7_go_50 lf_X7_19 rfl rfl rfl (by decide) hr.now ?_
      refine e_aload_n 54 dX7_go_53 rfl rfl ?_
      refine e_getr 57 dX7_go_54 lf_X7_62 rfl rfl rfl (by decide) hr.land ?_
      refine c_Vv 60 (ci := 3) dX7_go_57 (k_X3_pass G hr.m3 hr.dD hW hΛ (by omega) hmw.2.1 hm (fun w hw => (hmw.2.2 w hw).1)) lm_X7_153 zi_yX3_pass zs_yX3_pass rfl (by first | rfl | assumption) (by first | decide | omega) rfl rfl rfl (Nat.le_of_ble_eq_true rfl) (Nat.le_of_ble_eq_true rfl) (Nat.le_of_ble_eq_true rfl) (Nat.le_refl _) (Nat.le_refl _) ?_
      rintro a _ _ ⟨a1, r1, rfl, rfl⟩
      refine e_iinc 63 dX7_go_60 rfl (by decide) rfl (z_inc hii_1) (zst1_3 rfl) ?_
      refine e_goto 44 dX7_go_63 (by decide) ?_
      exact ih (i + 1) (zYear Λ m) a (by omega) (by show m.1 + 1 + k ≤ 99; omega) (hX.mom hW (by omega) (fun q hq => a1 q (by omega)) r1) (zYear_W hW hmw (by omega)) (fun b h1 h2 => hQ b h1 (fun q hq => (h2 q hq).trans (a1 q (by omega)))) hyr
set_option maxHeartbeats 4000000 in
set_option maxRecDepth 100000 in
theorem k_X7_go (G : zG) {D E : Nat} {Λ : zLd} {late : Nat} {tr : Int64} {t : zTx} {m : zMo} {im : Nat → Nat × zMo} {l : zLt} {r : zWr} {mi : zFi} {ml : zFl} {mr : zFr} (hr : zRf mr D E) (hX : zX mi ml D Λ late tr t m im l r) (hF : zWf Λ late t m im l r) {n : Int32} : zMet G 5 yX7_go cX7_go 4 (some .int) [.ref 0, .int n] 238 mi ml mr 238 (zPi fun x a b c => x = sGo m n ∧ zX a b D Λ late tr t (sGoM Λ m n) im l r ∧ (∀ q, 224 ≤ q → a q = mi q) ∧ b = ml ∧ c = mr) := by
  obtain ⟨hΛ, hlate, htr, ht, hm, him, hl, hw, hn72⟩ := id hX
  obtain ⟨hW, hla30, htw, hmw, himw, hlw, hrw⟩ := id hF
  have hP3 := hW.1.1
  have hW5 := hW.1.2.1
  have hy99 := hmw.1
  have hD9 := hr.Dl
  refine z_intro ([.ref 0, .int n, zx, zx]) (by decide) rfl (Nat.le_of_ble_eq_true rfl) ?_
  refine e_iload_n 1 dX7_go_0 rfl rfl ?_
  refine e_iconst 2 hic_1 dX7_go_1 rfl ?_
  refine e_bipush 4 hbi_99 dX7_go_2 rfl ?_
  refine c_Sqi 7 dX7_go_4 (k_X7_btw G (by decide) (by decide)) lm_X7_80 zt_yX7_between rfl rfl rfl (Nat.le_of_ble_eq_true rfl) (Nat.le_of_ble_eq_true rfl) (Nat.le_of_ble_eq_true rfl) (Nat.le_refl _) (Nat.le_refl _) ?_
  refine e_if_ne 12 10 dX7_go_7 (by decide) rfl (fun h7 => ?_) (fun h7 => ?_)
  · have h7 := zB_1 h7
    obtain ⟨en, hn1, hn2⟩ := h7.nat
    have eG : sGo m n = if 99 ≤ m.1 then -2 else nI (sGoN m n) := iteP h7
    have eM : sGoM Λ m n = if 99 ≤ m.1 then m else zYears Λ (sGoN m n) m := iteP h7
    rw [eG, eM]
    refine e_aload_n 13 dX7_go_12 rfl rfl ?_
    refine e_getr 16 dX7_go_13 lf_X7_19 rfl rfl rfl (by decide) hr.now ?_
    refine e_geti 19 dX7_go_16 lf_X7_145 rfl rfl rfl (by decide) hm.1 ?_
    refine e_bipush 21 hbi_99 dX7_go_19 rfl ?_
    refine e_icmp_ltN 27 24 dX7_go_21 (by decide) rfl (by omega) (by omega) (fun h21 => ?_) (fun h21 => ?_)
    · rw [if_neg (by omega), if_neg (by omega)]
      have hgn : sGoN m n = min (zK n) (99 - m.1) := rfl
      rw [hgn]
      clear eG eM h7
      generalize zK n = n9 at en hn1 hn2 hgn ⊢
      subst en
      refine e_iload_n 28 dX7_go_27 rfl rfl ?_
      refine e_bipush 30 hbi_99 dX7_go_28 rfl ?_
      refine e_aload_n 31 dX7_go_30 rfl rfl ?_
      refine e_getr 34 dX7_go_31 lf_X7_19 rfl rfl rfl (by decide) hr.now ?_
      refine e_geti 37 dX7_go_34 lf_X7_145 rfl rfl rfl (by decide) hm.1 ?_
      first | refine e_isubN 38 dX7_go_37 rfl (by omega) ?_ | refine e_isub 38 dX7_go_37 rfl ?_
      refine e_mminN 41 dX7_go_38 lmm_X7_148 rfl (Nat.le_of_ble_eq_true rfl) (Nat.le_of_ble_eq_true rfl) (Nat.le_refl _) (Nat.le_refl _) (by omega) (by omega) ?_
      refine e_istore_n 42 dX7_go_41 rfl (by decide) (zst1_2 rfl) ?_
      refine e_iconst 43 hic_0 dX7_go_42 rfl ?_
      refine e_istore_n 44 dX7_go_43 rfl (by decide) (zst1_3 rfl) ?_
      exact l_X7_go G _ hr hW (min n9 (99 - m.1)) 0 m mi (by omega) (by omega) hX hmw (fun a h1 h2 => ⟨_, rfl, rfl, h1, h2, rfl, rfl⟩) (by omega)
    · refine e_bipush 26 hbi_m2 dX7_go_24 rfl ?_
      refine e_ireturn .int dX7_go_26 rfl rfl ?_
      rw [if_pos (by omega), if_pos (by omega)]
      exact ⟨_, rfl, rfl, hX, fun _ _ => rfl, rfl, rfl⟩
  · have h7 := zB_0 h7
    have eG : sGo m n = -1 := iteN h7
    have eM : sGoM Λ m n = m := iteN h7
    rw [eG, eM]
    refine e_iconst 11 hic_m1 dX7_go_10 rfl ?_
    refine e_ireturn .int dX7_go_11 rfl rfl ?_
    exact ⟨_, rfl, rfl, hX, fun _ _ => rfl, rfl, rfl⟩

