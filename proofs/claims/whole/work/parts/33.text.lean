/-- bytes typed: k + 1 of v from the k-th down -/
def zTyF (v : Int64) : Nat → zTx → zTx
  | 0, t => t
  | k + 1, t => zTyF v k (t.1 + 1, zu t.2 t.1 (zByte v k))
theorem zTyF_1 (v : Int64) : ∀ (k : Nat) (t : zTx), (zTyF v k t).1 = t.1 + k
  | 0, t => rfl
  | k + 1, t => by
    show (zTyF v k (t.1 + 1, zu t.2 t.1 (zByte v k))).1 = _
    rw [zTyF_1 v k]
    show t.1 + 1 + k = _
    omega
theorem zTyF_b (v : Int64) : ∀ (k : Nat) (t : zTx), (∀ j, j < t.1 → t.2 j < 256) → ∀ j, j < t.1 + k → (zTyF v k t).2 j < 256
  | 0, t, h, j, hj => h j hj
  | k + 1, t, h, j, hj => by
    refine zTyF_b v k (t.1 + 1, zu t.2 t.1 (zByte v k)) (fun i hi => ?_) j (by show j < t.1 + 1 + k; omega)
    have hi9 : i < t.1 + 1 := hi
    show zu t.2 t.1 (zByte v k) i < 256
    by_cases e : i = t.1
    · subst e; rw [zu_s]; exact zByte_lt v k
    · rw [zu_n _ _ e]; exact h i (by omega)
theorem zXt_p {s : zFi} {t : zTx} {b : Nat} (h : zXt s t) : zXt (zp (zp s 2 t.1 (nI b)) 1 1 (nI (t.1 + 1))) (t.1 + 1, zu t.2 t.1 b) := by
  refine ⟨zp_s _ _ _ _, fun k hk => ?_⟩
  have hk9 : k < t.1 + 1 := hk
  rw [zp_r _ _ _ (by decide)]
  show _ = nI (zu t.2 t.1 b k)
  by_cases e : k = t.1
  · subst e; rw [zp_s, zu_s]
  · rw [zp_k _ _ e, zu_n _ _ e]; exact h.2 k (by omega)
theorem zCh_n : ∀ k, k < 256 → vp_nar .char (nI k) = nI k := by decide +kernel
theorem nI_nn {k : Nat} (h : k < 2 ^ 31) : ¬ nI k < 0 := by
  rw [Int32.lt_iff_toInt_lt, nI_toInt h]
  show ¬ _ < (0 : Int)
  omega
set_option maxHeartbeats 4000000 in
set_option maxRecDepth 100000 in
theorem l_X4_append (G : zG) (d : Nat) (Q : zQ) {D E : Nat} {v : Int64} {n9 : Nat} {ml : zFl} {mr : zFr} (hr : zRf mr D E) : ∀ (k : Nat) (t : zTx) (s : zFi), t.1 + (k + 1) ≤ 300 → k < 8 → zXt s t → (∀ u, zXt u (zTyF v (k + 1) t) → (∀ q, q ≠ 1 → q ≠ 2 → u q = s q) → Q (some (.int (nI 1))) u ml mr) → zE G (zRm d 238 238) (zQm G 238 238 Q) yX4_append.cls yX4_append.name cX4_append 5 (some .boolean) 238 19 [.ref 1, .long v, zx, .int (nI n9), .int (nI k)] [] 238 s ml mr := by
  intro k
  induction k with
  | zero =>
    intro t s h hk8 hs hQ
    refine e_iload 21 dX4_append_19 rfl rfl ?_
    refine e_if_lt 62 24 dX4_append_21 (by decide) rfl (fun h21 => ?_) (fun h21 => ?_)
    · exact absurd h21 (nI_nn (by omega))
    · refine e_aload_n 25 dX4_append_24 rfl rfl ?_
      refine e_getr 28 dX4_append_25 lf_X4_9 rfl rfl rfl (by decide) hr.text ?_
      refine e_aload_n 29 dX4_append_28 rfl rfl ?_
      refine e_geti (v := nI t.1) 32 dX4_append_29 lf_X4_15 rfl rfl rfl (by decide) hs.1 ?_
      refine e_lload_n 33 dX4_append_32 rfl rfl ?_
      refine e_bipush 35 hbi_8 dX4_append_33 rfl ?_
      refine e_iload 37 dX4_append_35 rfl rfl ?_
      first | refine e_imulN 38 dX4_append_37 rfl ?_ | refine e_imul 38 dX4_append_37 rfl ?_
      refine e_lushr 39 dX4_append_38 rfl ?_
      refine e_ldc2_w 42 lc_X4_19 dX4_append_39 rfl ?_
      refine e_land 43 dX4_append_42 rfl ?_
      rw [zBy_u v _ (by omega)]
      refine e_l2i 44 dX4_append_43 rfl ?_
      rw [zBy_i _ (zByte_lt _ _)]
      refine e_i2c 45 dX4_append_44 rfl ?_
      rw [zBy_c _ (zByte_lt _ _)]
      refine e_cast 46 dX4_append_45 rfl rfl (by decide) rfl (by show t.1 < 300; omega) (zCh_n _ (zByte_lt _ _)) ?_
      refine e_aload_n 47 dX4_append_46 rfl rfl ?_
      refine e_dup 48 dX4_append_47 rfl rfl ?_
      refine e_geti (v := nI t.1) 51 dX4_append_48 lf_X4_15 rfl rfl rfl (by decide) (by rw [zp_r _ _ _ (by decide)]; exact hs.1) ?_
      refine e_iconst 52 hic_1 dX4_append_51 rfl ?_
      first | refine e_iaddN 53 dX4_append_52 rfl ?_ | refine e_iadd 53 dX4_append_52 rfl ?_
      refine e_puti 56 dX4_append_53 lf_X4_15 rfl rfl rfl rfl rfl (by decide) ?_
      refine e_iinc 59 dX4_append_56 rfl (by decide) rfl rfl (zst1_4 rfl) ?_
      refine e_goto 19 dX4_append_59 (by decide) ?_
      refine e_iload 21 dX4_append_19 rfl rfl ?_
      refine e_if_lt 62 24 dX4_append_21 (by decide) rfl (fun h21 => ?_) (fun h21 => ?_)
      · refine e_iconst 63 hic_1 dX4_append_62 rfl ?_
        refine e_ireturn .boolean dX4_append_63 rfl rfl ?_
        exact hQ _ (zXt_p hs) (fun q g1 g2 => by rw [zp_r _ _ _ g1, zp_r _ _ _ g2])
      · exact absurd (show nI 0 + Int32.ofInt (-1) < 0 by decide) h21
  | succ k ih =>
    intro t s h hk8 hs hQ
    refine e_iload 21 dX4_append_19 rfl rfl ?_
    refine e_if_lt 62 24 dX4_append_21 (by decide) rfl (fun h21 => ?_) (fun h21 => ?_)
    · exact absurd h21 (nI_nn (by omega))
    · refine e_aload_n 25 dX4_append_24 rfl rfl ?_
      refine e_getr 28 dX4_append_25 lf_X4_9 rfl rfl rfl (by decide) hr.text ?_
      refine e_aload_n 29 dX4_append_28 rfl rfl ?_
      refine e_geti (v := nI t.1) 32 dX4_append_29 lf_X4_15 rfl rfl rfl (by decide) hs.1 ?_
      refine e_lload_n 33 dX4_append_32 rfl rfl ?_
      refine e_bipush 35 hbi_8 dX4_append_33 rfl ?_
      refine e_iload 37 dX4_append_35 rfl rfl ?_
      first | refine e_imulN 38 dX4_append_37 rfl ?_ | refine e_imul 38 dX4_append_37 rfl ?_
      refine e_lushr 39 dX4_append_38 rfl ?_
      refine e_ldc2_w 42 lc_X4_19 dX4_append_39 rfl ?_
      refine e_land 43 dX4_append_42 rfl ?_
      rw [zBy_u v _ (by omega)]
      refine e_l2i 44 dX4_append_43 rfl ?_
      rw [zBy_i _ (zByte_lt _ _)]
      refine e_i2c 45 dX4_append_44 rfl ?_
      rw [zBy_c _ (zByte_lt _ _)]
      refine e_cast 46 dX4_append_45 rfl rfl (by decide) rfl (by show t.1 < 300; omega) (zCh_n _ (zByte_lt _ _)) ?_
      refine e_aload_n 47 dX4_append_46 rfl rfl ?_
      refine e_dup 48 dX4_append_47 rfl rfl ?_
      refine e_geti (v := nI t.1) 51 dX4_append_48 lf_X4_15 rfl rfl rfl (by decide) (by rw [zp_r _ _ _ (by decide)]; exact hs.1) ?_
      refine e_iconst 52 hic_1 dX4_append_51 rfl ?_
      first | refine e_iaddN 53 dX4_append_52 rfl ?_ | refine e_iadd 53 dX4_append_52 rfl ?_
      refine e_puti 56 dX4_append_53 lf_X4_15 rfl rfl rfl rfl rfl (by decide) ?_
      refine e_iinc 59 dX4_append_56 rfl (by decide) rfl (z_dec (by omega)) (zst1_4 rfl) ?_
      refine e_goto 19 dX4_append_59 (by decide) ?_
      exact ih _ _ (by show t.1 + 1 + (k + 1) ≤ 300; omega) (by omega) (zXt_p hs) (fun u g1 g2 => hQ u g1 (fun q e1 e2 => by rw [g2 q e1 e2, zp_r _ _ _ e1, zp_r _ _ _ e2]))
set_option maxHeartbeats 4000000 in
set_option maxRecDepth 100000 in
theorem k_X4_append (G : zG) {D E : Nat} {v : Int64} {n9 : Nat} {ml : zFl} {mr : zFr} (hr : zRf mr D E) {t : zTx} {mi : zFi} (ht : zXt mi t) (h3 : t.1 ≤ 300) (hn : 1 ≤ n9) (hn8 : n9 ≤ 8) : zMet G 0 yX4_append cX4_append 5 (some .boolean) [.ref 1, .long v, .int (nI n9)] 238 mi ml mr 238 (zPi fun x u b c => x = zB (t.1 + n9 ≤ 300) inferInstance ∧ zXt u (if t.1 + n9 ≤ 300 then zTyF v n9 t else t) ∧ (∀ q, q ≠ 1 → q ≠ 2 → u q = mi q) ∧ b = ml ∧ c = mr) := by
  refine z_intro ([.ref 1, .long v, zx, .int (nI n9), zx]) (by decide) rfl (Nat.le_of_ble_eq_true rfl) ?_
  refine e_iload_n 1 dX4_append_0 rfl rfl ?_
  refine e_sipush 4 hsi_300 dX4_append_1 rfl ?_
  refine e_aload_n 5 dX4_append_4 rfl rfl ?_
  refine e_geti 8 dX4_append_5 lf_X4_15 rfl rfl rfl (by decide) ht.1 ?_
  first | refine e_isubN 9 dX4_append_8 rfl (by omega) ?_ | refine e_isub 9 dX4_append_8 rfl ?_
  refine e_icmp_leN 14 12 dX4_append_9 (by decide) rfl (by omega) (by omega) (fun h9 => ?_) (fun h9 => ?_)
  · refine e_iload_n 15 dX4_append_14 rfl rfl ?_
    refine e_iconst 16 hic_1 dX4_append_15 rfl ?_
    first | refine e_isubN 17 dX4_append_16 rfl (by omega) ?_ | refine e_isub 17 dX4_append_16 rfl ?_
    refine e_istore 19 dX4_append_17 rfl (by decide) (zst1_4 rfl) ?_
    have en : n9 - 1 + 1 = n9 := by omega
    refine l_X4_append G _ _ hr (n9 - 1) t mi (by omega) (by omega) ht (fun u g1 g2 => ?_)
    rw [en] at g1
    exact ⟨_, rfl, by unfold zB; rw [if_pos (by omega)], by rw [if_pos (by omega)]; exact g1, g2, rfl, rfl⟩
  · refine e_iconst 13 hic_0 dX4_append_12 rfl ?_
    refine e_ireturn .boolean dX4_append_13 rfl rfl ?_
    exact ⟨_, rfl, by unfold zB; rw [if_neg (by omega)], by rw [if_neg (by omega)]; exact ht, fun _ _ _ => rfl, rfl, rfl⟩

def sType (t : zTx) (n : Int32) : Int32 := @ite _ (vR n 1 8) (vR_dec _ _ _) (if t.1 + zK n ≤ 300 then nI (t.1 + zK n) else -3) (-1)
def sTypeT (t : zTx) (v : Int64) (n : Int32) : zTx := @ite _ (vR n 1 8) (vR_dec _ _ _) (if t.1 + zK n ≤ 300 then zTyF v (zK n) t else t) t
theorem sTypeT_F {Λ : zLd} {late : Nat} {t : zTx} {m : zMo} {im : Nat → Nat × zMo} {l : zLt} {r : zWr} (hF : zWf Λ late t m im l r) {v : Int64} {n : Int32} : zWf Λ late (sTypeT t v n) m im l r := by
  obtain ⟨hW, hla30, htw, hmw, himw, hlw, hrw⟩ := hF
  refine ⟨hW, hla30, ?_, hmw, himw, hlw, hrw⟩
  unfold sTypeT
  by_cases q : vR n 1 8
  · rw [iteP q]
    split
    · refine ⟨by rw [zTyF_1]; assumption, fun k hk => ?_⟩
      rw [zTyF_1] at hk
      exact zTyF_b v _ t htw.2 k hk
    · exact htw
  · rw [iteN q]; exact htw
set_option maxHeartbeats 4000000 in
set_option maxRecDepth 100000 in
theorem k_X7_type (G : zG) {D E : Nat} {Λ : zLd} {late : Nat} {tr : Int64} {t : zTx} {m : zMo} {im : Nat → Nat × zMo} {l : zLt} {r : zWr} {mi : zFi} {ml : zFl} {mr : zFr} (hr : zRf mr D E) (hX : zX mi ml D Λ late tr t m im l r) (hF : zWf Λ late t m im l r) {v : Int64} {n : Int32} : zMet G 1 yX7_type cX7_type 4 (some .int) [.ref 0, .long v, .int n] 238 mi ml mr 238 (zPi fun x u b c => x = sType t n ∧ zX u b D Λ late tr (sTypeT t v n) m im l r ∧ (∀ q, 224 ≤ q → u q = mi q) ∧ b = ml ∧ c = mr) := by
  obtain ⟨hΛ, hlate, htr, ht, hm, him, hl, hw, hn72⟩ := id hX
  obtain ⟨hW, hla30, htw, hmw, himw, hlw, hrw⟩ := id hF
  have hP3 := hW.1.1
  have hW5 := hW.1.2.1
  have hy99 := hmw.1
  have hD9 := hr.Dl
  refine z_intro ([.ref 0, .long v, zx, .int n]) (by decide) rfl (Nat.le_of_ble_eq_true rfl) ?_
  refine e_iload_n 1 dX7_type_0 rfl rfl ?_
  refine e_iconst 2 hic_1 dX7_type_1 rfl ?_
  refine e_bipush 4 hbi_8 dX7_type_2 rfl ?_
  refine c_Sqi 7 dX7_type_4 (k_X7_btw G (by decide) (by decide)) lm_X7_80 zt_yX7_between rfl rfl rfl (Nat.le_of_ble_eq_true rfl) (Nat.le_of_ble_eq_true rfl) (Nat.le_of_ble_eq_true rfl) (by exact Nat.le_refl _) (by exact Nat.le_refl _) ?_
  refine e_if_ne 12 10 dX7_type_7 (by decide) rfl (fun h7 => ?_) (fun h7 => ?_)
  · have h7 := zB_1 h7
    obtain ⟨en, hn9⟩ := h7.nat
    refine e_aload_n 13 dX7_type_12 rfl rfl ?_
    refine e_getr 16 dX7_type_13 lf_X7_10 rfl rfl rfl (by decide) hr.reader ?_
    refine e_lload_n 17 dX7_type_16 rfl rfl ?_
    refine e_iload_n 18 dX7_type_17 rfl rfl ?_
    have e1 : sType t n = (if t.1 + zK n ≤ 300 then nI (t.1 + zK n) else -3) := iteP h7
    have e2 : sTypeT t v n = (if t.1 + zK n ≤ 300 then zTyF v (zK n) t else t) := iteP h7
    rw [e1, e2]
    clear e1 e2 h7
    generalize zK n = n8 at en hn9 ⊢
    subst en
    refine c_Vi 21 (ci := 4) dX7_type_18 (k_X4_append G hr ht htw.1 hn9.1 hn9.2) lm_X7_84 zi_yX4_append zs_yX4_append rfl rfl (by decide) rfl rfl rfl (Nat.le_of_ble_eq_true rfl) (Nat.le_of_ble_eq_true rfl) (Nat.le_of_ble_eq_true rfl) (by exact Nat.le_refl _) (by exact Nat.le_refl _) ?_
    rintro x u _ _ ⟨rfl, t1, o1, rfl, rfl⟩
    have hX2 : zX u _ D Λ late tr (if t.1 + n8 ≤ 300 then zTyF v n8 t else t) m im l r := ⟨hΛ.congr (fun j hj => o1 _ (by omega) (by omega)), by rw [o1 0 (by decide) (by decide)]; exact hlate, htr, t1, hm.c hW (fun q g1 g2 => o1 q (by omega) (by omega)), him.c hW (o1 66 (by decide) (by decide)) (fun q g1 g2 => o1 q (by omega) (by omega)), hl.c (o1 67 (by decide) (by decide)), hw.c (o1 69 (by decide) (by decide)) (o1 70 (by decide) (by decide)) (o1 71 (by decide) (by decide)), by rw [o1 72 (by decide) (by decide)]; exact hn72⟩
    refine e_if_eq 34 24 dX7_type_21 (by decide) rfl (fun h21 => ?_) (fun h21 => ?_)
    · have h21 := zB_0 h21
      rw [if_neg h21] at hX2 t1
      rw [if_neg h21, if_neg h21]
      refine e_bipush 36 hbi_m3 dX7_type_34 rfl ?_
      refine e_ireturn .int dX7_type_36 rfl rfl ?_
      exact ⟨_, rfl, rfl, hX2, fun q hq => o1 q (by omega) (by omega), rfl, rfl⟩
    · have h21 := zB_1 h21
      rw [if_pos h21] at hX2 t1
      rw [if_pos h21, if_pos h21]
      refine e_aload_n 25 dX7_type_24 rfl rfl ?_
      refine e_getr 28 dX7_type_25 lf_X7_10 rfl rfl rfl (by decide) hr.reader ?_
      refine e_geti (v := nI (t.1 + n8)) 31 dX7_type_28 lf_X7_88 rfl rfl rfl (by decide) (by rw [t1.1, zTyF_1]) ?_
      refine e_goto 36 dX7_type_31 (by decide) ?_
      refine e_ireturn .int dX7_type_36 rfl rfl ?_
      exact ⟨_, rfl, rfl, hX2, fun q hq => o1 q (by omega) (by omega), rfl, rfl⟩
  · have h7 := zB_0 h7
    refine e_iconst 11 hic_m1 dX7_type_10 rfl ?_
    refine e_ireturn .int dX7_type_11 rfl rfl ?_
    have e1 : sType t n = -1 := iteN h7
    have e2 : sTypeT t v n = t := iteN h7
    rw [e1, e2]
    exact ⟨_, rfl, rfl, hX, fun _ _ => rfl, rfl, rfl⟩

