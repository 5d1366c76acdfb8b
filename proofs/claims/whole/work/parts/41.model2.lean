def zFs9 (u mi : zFi) : Prop := ∀ q, q ≠ 225 → u q = mi q
theorem zFs9.p {mi : zFi} {k : Nat} {v : Int32} : zFs9 (zp mi 225 k v) mi := fun q hq => zp_r _ _ _ hq
theorem zFs9.t {a b c : zFi} (h1 : zFs9 a b) (h2 : zFs9 b c) : zFs9 a c := fun q hq => (h1 q hq).trans (h2 q hq)
theorem zFs9.r (a : zFi) : zFs9 a a := fun _ _ => rfl
theorem zYd.s {u mi : zFi} {Λ : zLd} (h : zYd mi Λ) (e : zFs9 u mi) : zYd u Λ := by
  unfold zYd
  rw [e 224 (by decide), e 230 (by decide), e 231 (by decide), e 232 (by decide)]
  exact h
set_option maxHeartbeats 4000000 in
set_option maxRecDepth 100000 in
theorem l_X8_mean (G : zG) (d : Nat) (Q : zQ) {D E : Nat} {Λ : zLd} {mi : zFi} {ml : zFl} {mr : zFr} (hr : zRf mr D E) (hd : zYd mi Λ) (hW : zLandW Λ) {w who : Nat} {sh : Nat → Nat → Nat} (hsh : zYsh (mi 225) (Λ 0 0) w sh) (hle : ∀ p, p < Λ 0 0 → zLe (sh p)) (hw : w < 5) (hwho : who ≤ 2) : ∀ (k p s : Nat), p + k = Λ 0 0 → s + zsum (fun p => zMeas who (sh p)) p k ≤ 3000 → Q (some (.int (nI ((s + zsum (fun p => zMeas who (sh p)) p k) / Λ 0 0)))) mi ml mr → zE G (zRm (d + 2) 238 238) (zQm G 238 238 Q) yX8_mean.cls yX8_mean.name cX8_mean 5 (some .int) 238 5 [.ref 224, .int (nI w), .int (nI who), .int (nI s), .int (nI p)] [] 238 mi ml mr := by
  intro k
  induction k with
  | zero =>
    intro p s h hs9 hQ
    have hP3 := hW.1.1
    refine e_iload 7 dX8_mean_5 rfl rfl ?_
    refine e_aload_n 8 dX8_mean_7 rfl rfl ?_
    refine e_geti 11 dX8_mean_8 lf_X8_138 rfl rfl rfl (by decide) hd.1.1 ?_
    refine e_icmp_geN 31 14 dX8_mean_11 (by decide) rfl (by omega) (by omega) (fun h11 => ?_) (fun h11 => ?_)
    · refine e_aload_n 32 dX8_mean_31 rfl rfl ?_
      refine e_geti 35 dX8_mean_32 lf_X8_138 rfl rfl rfl (by decide) hd.1.1 ?_
      refine e_if_neN 42 38 dX8_mean_35 (by decide) rfl (by omega) (fun h35 => ?_) (fun h35 => ?_)
      · refine e_iload_n 43 dX8_mean_42 rfl rfl ?_
        refine e_aload_n 44 dX8_mean_43 rfl rfl ?_
        refine e_geti 47 dX8_mean_44 lf_X8_138 rfl rfl rfl (by decide) hd.1.1 ?_
        refine e_idivN 48 dX8_mean_47 rfl (by have : zsum (fun p => zMeas who (sh p)) p 0 = 0 := rfl; omega) (by omega) (by omega) ?_
        refine e_ireturn .int dX8_mean_48 rfl rfl ?_
        first
          | exact hQ
          | (have e9 : Λ 0 0 = 0 := h35; rw [e9, Nat.div_zero] at hQ; exact hQ)
      · refine e_iconst 39 hic_0 dX8_mean_38 rfl ?_
        refine e_goto 48 dX8_mean_39 (by decide) ?_
        refine e_ireturn .int dX8_mean_48 rfl rfl ?_
        first
          | exact hQ
          | (have e9 : Λ 0 0 = 0 := h35; rw [e9, Nat.div_zero] at hQ; exact hQ)
    · exact absurd h11 (by omega)
  | succ k ih =>
    intro p s h hs9 hQ
    have hP3 := hW.1.1
    have e0 : s + zsum (fun p => zMeas who (sh p)) p (k + 1) = s + zMeas who (sh p) + zsum (fun p => zMeas who (sh p)) (p + 1) k := by show s + (zMeas who (sh p) + _) = _; rw [Nat.add_assoc]
    rw [e0] at hQ hs9
    refine e_iload 7 dX8_mean_5 rfl rfl ?_
    refine e_aload_n 8 dX8_mean_7 rfl rfl ?_
    refine e_geti 11 dX8_mean_8 lf_X8_138 rfl rfl rfl (by decide) hd.1.1 ?_
    refine e_icmp_geN 31 14 dX8_mean_11 (by decide) rfl (by omega) (by omega) (fun h11 => ?_) (fun h11 => ?_)
    · exact absurd h11 (by omega)
    · refine e_iload_n 15 dX8_mean_14 rfl rfl ?_
      refine e_aload_n 16 dX8_mean_15 rfl rfl ?_
      refine e_iload_n 17 dX8_mean_16 rfl rfl ?_
      refine e_iload 19 dX8_mean_17 rfl rfl ?_
      refine e_iload_n 20 dX8_mean_19 rfl rfl ?_
      refine c_Vqi 23 (ci := 8) dX8_mean_20 (k_X8_of G hr (hsh p h11) (hle p h11) hw (by omega) hwho) lm_X8_166 zi_yX8_of zs_yX8_of rfl rfl (by decide) rfl rfl rfl (Nat.le_of_ble_eq_true rfl) (Nat.le_of_ble_eq_true rfl) (Nat.le_of_ble_eq_true rfl) (by exact Nat.le_refl _) (by exact Nat.le_refl _) ?_
      first | refine e_iaddN 24 dX8_mean_23 rfl ?_ | refine e_iadd 24 dX8_mean_23 rfl ?_
      refine e_istore_n 25 dX8_mean_24 rfl (by decide) (zst1_3 rfl) ?_
      refine e_iinc 28 dX8_mean_25 rfl (by decide) rfl (z_inc hii_1) (zst1_4 rfl) ?_
      refine e_goto 5 dX8_mean_28 (by decide) ?_
      exact ih (p + 1) _ (by omega) hs9 hQ
set_option maxHeartbeats 4000000 in
set_option maxRecDepth 100000 in
theorem k_X8_mean (G : zG) {D E : Nat} {Λ : zLd} {mi : zFi} {ml : zFl} {mr : zFr} (hr : zRf mr D E) (hd : zYd mi Λ) (hW : zLandW Λ) {w who : Nat} {sh : Nat → Nat → Nat} (hsh : zYsh (mi 225) (Λ 0 0) w sh) (hle : ∀ p, p < Λ 0 0 → zLe (sh p)) (hw : w < 5) (hwho : who ≤ 2) : zMet G 2 yX8_mean cX8_mean 5 (some .int) [.ref 224, .int (nI w), .int (nI who)] 238 mi ml mr 238 (zPq (some (.int (nI (zsum (fun p => zMeas who (sh p)) 0 (Λ 0 0) / Λ 0 0)))) mi ml mr) := by
  refine z_intro ([.ref 224, .int (nI w), .int (nI who), zx, zx]) (by decide) rfl (Nat.le_of_ble_eq_true rfl) ?_
  refine e_iconst 1 hic_0 dX8_mean_0 rfl ?_
  refine e_istore_n 2 dX8_mean_1 rfl (by decide) (zst1_3 rfl) ?_
  refine e_iconst 3 hic_0 dX8_mean_2 rfl ?_
  refine e_istore 5 dX8_mean_3 rfl (by decide) (zst1_4 rfl) ?_
  have hb := zsum_le (f := (fun p => zMeas who (sh p))) (M := 1000) (Λ 0 0) 0 (fun p _ h2 => zMeas_le (hle p (by omega)))
  have hP3 := hW.1.1
  exact l_X8_mean G _ _ hr hd hW hsh hle hw hwho (Λ 0 0) 0 0 (by omega) (by omega) ⟨by rw [Nat.zero_add], rfl, rfl, rfl⟩

/-- the notes of year y, as far as word w, place p -/
def zRcI (mi u : zFi) (Λ : zLd) (y : Nat) (sh : Nat → Nat → Nat → Nat) (yg : Nat → Nat → Nat → Nat) (pm : Nat → Nat → Nat) (w p : Nat) : Prop :=
  zFs9 u mi ∧ (∀ k, k < 950 → u 225 k = mi 225 k) ∧ (∀ v, v < Λ 0 1 → ∀ q, q < Λ 0 0 → ∀ t, t < y → u 225 (zYo v q t) = nI (yg v q t)) ∧ (∀ v, v < Λ 0 1 → ∀ t, t < y → u 225 (zPa v t) = nI (pm v t)) ∧
  (∀ v q, v < Λ 0 1 → q < Λ 0 0 → (v < w ∨ (v = w ∧ q < p)) → u 225 (zYo v q y) = nI (zYoung (sh v q))) ∧ ∀ v, v < w → u 225 (zPa v y) = nI (zsum (fun q => zPar (sh v q)) 0 (Λ 0 0) / Λ 0 0)
section ZRC
variable {mi u : zFi} {Λ : zLd} {y w p : Nat} {sh yg : Nat → Nat → Nat → Nat} {pm : Nat → Nat → Nat}
theorem zRcI.stP (hW : zLandW Λ) (hy : y ≤ 99) (hw : w < Λ 0 1) (hp : p < Λ 0 0) (h : zRcI mi u Λ y sh yg pm w p) : zRcI mi (zp u 225 (zYo w p y) (nI (zYoung (sh w p)))) Λ y sh yg pm w (p + 1) := by
  obtain ⟨h1, h2, h3, h4, h5, h6⟩ := h
  have hP3 := hW.1.1
  have hW5 := hW.1.2.1
  refine ⟨zFs9.p.t h1, fun k hk => ?_, fun v hv q hq t ht => ?_, fun v hv t ht => ?_, fun v q hv hq z => ?_, fun v hv => ?_⟩
  · rw [zp_k _ _ (by unfold zYo; omega)]; exact h2 k hk
  · rw [zp_k _ _ (by unfold zYo; omega)]; exact h3 v hv q hq t ht
  · rw [zp_k _ _ (by unfold zYo zPa; omega)]; exact h4 v hv t ht
  · by_cases e : v = w ∧ q = p
    · obtain ⟨e1, e2⟩ := e
      subst e1 e2
      rw [zp_s]
    · rw [zp_k _ _ (by unfold zYo; omega)]
      exact h5 v q hv hq (by omega)
  · rw [zp_k _ _ (by unfold zYo zPa; omega)]; exact h6 v hv
theorem zRcI.stW (hW : zLandW Λ) (hy : y ≤ 99) (hw : w < Λ 0 1) (h : zRcI mi u Λ y sh yg pm w (Λ 0 0)) : zRcI mi (zp u 225 (zPa w y) (nI (zsum (fun q => zPar (sh w q)) 0 (Λ 0 0) / Λ 0 0))) Λ y sh yg pm (w + 1) 0 := by
  obtain ⟨h1, h2, h3, h4, h5, h6⟩ := h
  have hP3 := hW.1.1
  have hW5 := hW.1.2.1
  refine ⟨zFs9.p.t h1, fun k hk => ?_, fun v hv q hq t ht => ?_, fun v hv t ht => ?_, fun v q hv hq z => ?_, fun v hv => ?_⟩
  · rw [zp_k _ _ (by unfold zPa; omega)]; exact h2 k hk
  · rw [zp_k _ _ (by unfold zYo zPa; omega)]; exact h3 v hv q hq t ht
  · rw [zp_k _ _ (by unfold zPa; omega)]; exact h4 v hv t ht
  · rw [zp_k _ _ (by unfold zYo zPa; omega)]
    exact h5 v q hv hq (by omega)
  · by_cases e : v = w
    · subst e; rw [zp_s]
    · rw [zp_k _ _ (by unfold zPa; omega)]; exact h6 v (by omega)
theorem zRcI.shr (hW : zLandW Λ) (hs : ∀ v, v < Λ 0 1 → zYsh (mi 225) (Λ 0 0) v (sh v)) (h : zRcI mi u Λ y sh yg pm w p) : ∀ v, v < Λ 0 1 → zYsh (u 225) (Λ 0 0) v (sh v) := fun v hv q hq a h1 h2 => by
  have hP3 := hW.1.1
  have hW5 := hW.1.2.1
  rw [h.2.1 _ (by unfold zAt; omega)]
  exact hs v hv q hq a h1 h2
theorem zRcI.nos (hW : zLandW Λ) (h : zRcI mi u Λ y sh yg pm (Λ 0 1) p) : ∀ v, v < Λ 0 1 → zYno (u 225) (Λ 0 0) v y (zNote (Λ 0 0) y (sh v) (yg v) (pm v)).2.1 (zNote (Λ 0 0) y (sh v) (yg v) (pm v)).2.2 := fun v hv => by
  refine ⟨fun q hq t ht => ?_, fun t ht => ?_⟩
  · show _ = nI (zu (yg v q) y (zYoung (sh v q)) t)
    by_cases e : t = y
    · subst e; rw [zu_s]; exact h.2.2.2.2.1 v q hv hq (Or.inl hv)
    · rw [zu_n _ _ e]; exact h.2.2.1 v hv q hq t (by omega)
  · show _ = nI (zu (pm v) y _ t)
    by_cases e : t = y
    · subst e; rw [zu_s]; exact h.2.2.2.2.2 v hv
    · rw [zu_n _ _ e]; exact h.2.2.2.1 v hv t (by omega)
end ZRC
set_option maxHeartbeats 4000000 in
set_option maxRecDepth 100000 in
theorem m_X8_records (G : zG) (d : Nat) (Q : zQ) {D E : Nat} {Λ : zLd} {mi : zFi} {ml : zFl} {mr : zFr} (hr : zRf mr D E) (hd0 : zYd mi Λ) (hW : zLandW Λ) {y : Nat} (hy0 : mi 225 0 = nI y) (hy : y ≤ 99) {sh yg : Nat → Nat → Nat → Nat} {pm : Nat → Nat → Nat} (hs : ∀ v, v < Λ 0 1 → zYsh (mi 225) (Λ 0 0) v (sh v)) (hle : ∀ v, v < Λ 0 1 → ∀ q, q < Λ 0 0 → zLe (sh v q)) {w : Nat} (hw : w < Λ 0 1) : ∀ (k p : Nat) (u : zFi), p + k = Λ 0 0 → zRcI mi u Λ y sh yg pm w p → (∀ u2, zRcI mi u2 Λ y sh yg pm w (Λ 0 0) → zE G (zRm (d + 3) 238 238) (zQm G 238 238 Q) yX8_records.cls yX8_records.name cX8_records 3 none 238 59 [.ref 224, .int (nI w), .int (nI (Λ 0 0))] [] 238 u2 ml mr) → zE G (zRm (d + 3) 238 238) (zQm G 238 238 Q) yX8_records.cls yX8_records.name cX8_records 3 none 238 12 [.ref 224, .int (nI w), .int (nI p)] [] 238 u ml mr := by
  intro k
  induction k with
  | zero =>
    intro p u h hI hQ
    have hd := hd0.s hI.1
    have hsu := hI.shr hW hs
    have hP3 := hW.1.1
    have hW5 := hW.1.2.1
    refine e_iload_n 13 dX8_records_12 rfl rfl ?_
    refine e_aload_n 14 dX8_records_13 rfl rfl ?_
    refine e_geti 17 dX8_records_14 lf_X8_138 rfl rfl rfl (by decide) hd.1.1 ?_
    refine e_icmp_geN 59 20 dX8_records_17 (by decide) rfl (by omega) (by omega) (fun h17 => ?_) (fun h17 => ?_)
    · have ep : p = Λ 0 0 := by omega
      subst ep
      exact hQ u hI
    · exact absurd h17 (by omega)
  | succ k ih =>
    intro p u h hI hQ
    have hd := hd0.s hI.1
    have hsu := hI.shr hW hs
    have hP3 := hW.1.1
    have hW5 := hW.1.2.1
    refine e_iload_n 13 dX8_records_12 rfl rfl ?_
    refine e_aload_n 14 dX8_records_13 rfl rfl ?_
    refine e_geti 17 dX8_records_14 lf_X8_138 rfl rfl rfl (by decide) hd.1.1 ?_
    refine e_icmp_geN 59 20 dX8_records_17 (by decide) rfl (by omega) (by omega) (fun h17 => ?_) (fun h17 => ?_)
    · exact absurd h17 (by omega)
    · refine e_aload_n 21 dX8_records_20 rfl rfl ?_
      refine e_getr 24 dX8_records_21 lf_X8_7 rfl rfl rfl (by decide) hr.ys ?_
      refine e_sipush 27 hsi_950 dX8_records_24 rfl ?_
      refine e_sipush 30 hsi_300 dX8_records_27 rfl ?_
      refine e_iload_n 31 dX8_records_30 rfl rfl ?_
      first | refine e_imulN 32 dX8_records_31 rfl ?_ | refine e_imul 32 dX8_records_31 rfl ?_
      first | refine e_iaddN 33 dX8_records_32 rfl ?_ | refine e_iadd 33 dX8_records_32 rfl ?_
      refine e_bipush 35 hbi_100 dX8_records_33 rfl ?_
      refine e_iload_n 36 dX8_records_35 rfl rfl ?_
      first | refine e_imulN 37 dX8_records_36 rfl ?_ | refine e_imul 37 dX8_records_36 rfl ?_
      first | refine e_iaddN 38 dX8_records_37 rfl ?_ | refine e_iadd 38 dX8_records_37 rfl ?_
      refine e_aload_n 39 dX8_records_38 rfl rfl ?_
      refine e_getr 42 dX8_records_39 lf_X8_7 rfl rfl rfl (by decide) hr.ys ?_
      refine e_iconst 43 hic_0 dX8_records_42 rfl ?_
      refine e_iald 44 dX8_records_43 rfl rfl (by decide) rfl (by show 0 < 2950; decide) ((hI.2.1 0 (by decide)).trans hy0) ?_
      first | refine e_iaddN 45 dX8_records_44 rfl ?_ | refine e_iadd 45 dX8_records_44 rfl ?_
      refine e_aload_n 46 dX8_records_45 rfl rfl ?_
      refine e_iload_n 47 dX8_records_46 rfl rfl ?_
      refine e_iload_n 48 dX8_records_47 rfl rfl ?_
      refine e_iconst 49 hic_0 dX8_records_48 rfl ?_
      refine c_Vqi 52 (ci := 8) dX8_records_49 (k_X8_of G hr (hsu w hw p h17) (hle w hw p h17) (by omega) (by omega) (by decide)) lm_X8_166 zi_yX8_of zs_yX8_of rfl rfl (by decide) rfl rfl rfl (Nat.le_of_ble_eq_true rfl) (Nat.le_of_ble_eq_true rfl) (Nat.le_of_ble_eq_true rfl) (by exact Nat.le_refl _) (by exact Nat.le_refl _) ?_
      refine e_iast 53 dX8_records_52 rfl rfl (by decide) rfl (by show zYo w p y < 2950; unfold zYo; omega) ?_
      refine e_iinc 56 dX8_records_53 rfl (by decide) rfl (z_inc hii_1) (zst1_2 rfl) ?_
      refine e_goto 12 dX8_records_56 (by decide) ?_
      exact ih (p + 1) _ (by omega) (hI.stP hW hy hw h17) hQ
set_option maxHeartbeats 4000000 in
set_option maxRecDepth 100000 in
theorem l_X8_records (G : zG) (d : Nat) (Q : zQ) {D E : Nat} {Λ : zLd} {mi : zFi} {ml : zFl} {mr : zFr} (hr : zRf mr D E) (hd0 : zYd mi Λ) (hW : zLandW Λ) {y : Nat} (hy0 : mi 225 0 = nI y) (hy : y ≤ 99) {sh yg : Nat → Nat → Nat → Nat} {pm : Nat → Nat → Nat} (hs : ∀ v, v < Λ 0 1 → zYsh (mi 225) (Λ 0 0) v (sh v)) (hle : ∀ v, v < Λ 0 1 → ∀ q, q < Λ 0 0 → zLe (sh v q)) : ∀ (k w : Nat) (u : zFi) (v2 : Value), w + k = Λ 0 1 → zRcI mi u Λ y sh yg pm w 0 → (∀ u2, zRcI mi u2 Λ y sh yg pm (Λ 0 1) 0 → Q none u2 ml mr) → zE G (zRm (d + 3) 238 238) (zQm G 238 238 Q) yX8_records.cls yX8_records.name cX8_records 3 none 238 2 [.ref 224, .int (nI w), v2] [] 238 u ml mr := by
  intro k
  induction k with
  | zero =>
    intro w u v2 h hI hQ
    have hd := hd0.s hI.1
    have hsu := hI.shr hW hs
    have hP3 := hW.1.1
    have hW5 := hW.1.2.1
    refine e_iload_n 3 dX8_records_2 rfl rfl ?_
    refine e_aload_n 4 dX8_records_3 rfl rfl ?_
    refine e_geti 7 dX8_records_4 lf_X8_141 rfl rfl rfl (by decide) hd.1.2 ?_
    refine e_icmp_geN 91 10 dX8_records_7 (by decide) rfl (by omega) (by omega) (fun h7 => ?_) (fun h7 => ?_)
    · refine e_vreturn dX8_records_91 rfl ?_
      have ew : w = Λ 0 1 := by omega
      subst ew
      exact hQ u hI
    · exact absurd h7 (by omega)
  | succ k ih =>
    intro w u v2 h hI hQ
    have hd := hd0.s hI.1
    have hsu := hI.shr hW hs
    have hP3 := hW.1.1
    have hW5 := hW.1.2.1
    refine e_iload_n 3 dX8_records_2 rfl rfl ?_
    refine e_aload_n 4 dX8_records_3 rfl rfl ?_
    refine e_geti 7 dX8_records_4 lf_X8_141 rfl rfl rfl (by decide) hd.1.2 ?_
    refine e_icmp_geN 91 10 dX8_records_7 (by decide) rfl (by omega) (by omega) (fun h7 => ?_) (fun h7 => ?_)
    · exact absurd h7 (by omega)
    · refine e_iconst 11 hic_0 dX8_records_10 rfl ?_
      refine e_istore_n 12 dX8_records_11 rfl (by decide) (zst1_2 rfl) ?_
      refine m_X8_records G _ _ hr hd0 hW hy0 hy hs hle h7 (Λ 0 0) 0 u (by omega) hI (fun u2 hI => ?_)
      have hd := hd0.s hI.1
      have hsu := hI.shr hW hs
      refine e_aload_n 60 dX8_records_59 rfl rfl ?_
      refine e_getr 63 dX8_records_60 lf_X8_7 rfl rfl rfl (by decide) hr.ys ?_
      refine e_sipush 66 hsi_2450 dX8_records_63 rfl ?_
      refine e_bipush 68 hbi_100 dX8_records_66 rfl ?_
      refine e_iload_n 69 dX8_records_68 rfl rfl ?_
      first | refine e_imulN 70 dX8_records_69 rfl ?_ | refine e_imul 70 dX8_records_69 rfl ?_
      first | refine e_iaddN 71 dX8_records_70 rfl ?_ | refine e_iadd 71 dX8_records_70 rfl ?_
      refine e_aload_n 72 dX8_records_71 rfl rfl ?_
      refine e_getr 75 dX8_records_72 lf_X8_7 rfl rfl rfl (by decide) hr.ys ?_
      refine e_iconst 76 hic_0 dX8_records_75 rfl ?_
      refine e_iald 77 dX8_records_76 rfl rfl (by decide) rfl (by show 0 < 2950; decide) ((hI.2.1 0 (by decide)).trans hy0) ?_
      first | refine e_iaddN 78 dX8_records_77 rfl ?_ | refine e_iadd 78 dX8_records_77 rfl ?_
      refine e_aload_n 79 dX8_records_78 rfl rfl ?_
      refine e_iload_n 80 dX8_records_79 rfl rfl ?_
      refine e_iconst 81 hic_1 dX8_records_80 rfl ?_
      refine c_Vqi 84 (ci := 8) dX8_records_81 (k_X8_mean G hr hd hW (hsu w h7) (hle w h7) (by omega) (by decide)) lm_X8_169 zi_yX8_mean zs_yX8_mean rfl rfl (by decide) rfl rfl rfl (Nat.le_of_ble_eq_true rfl) (Nat.le_of_ble_eq_true rfl) (Nat.le_of_ble_eq_true rfl) (by exact Nat.le_refl _) (by exact Nat.le_refl _) ?_
      refine e_iast 85 dX8_records_84 rfl rfl (by decide) rfl (by show zPa w y < 2950; unfold zPa; omega) ?_
      refine e_iinc 88 dX8_records_85 rfl (by decide) rfl (z_inc hii_1) (zst1_1 rfl) ?_
      refine e_goto 2 dX8_records_88 (by decide) ?_
      exact ih (w + 1) _ _ (by omega) (hI.stW hW hy h7) hQ
set_option maxHeartbeats 4000000 in
set_option maxRecDepth 100000 in
theorem k_X8_records (G : zG) {D E : Nat} {Λ : zLd} {mi : zFi} {ml : zFl} {mr : zFr} (hr : zRf mr D E) (hd0 : zYd mi Λ) (hW : zLandW Λ) {y : Nat} (hy0 : mi 225 0 = nI y) (hy : y ≤ 99) {sh yg : Nat → Nat → Nat → Nat} {pm : Nat → Nat → Nat} (hs : ∀ v, v < Λ 0 1 → zYsh (mi 225) (Λ 0 0) v (sh v)) (hle : ∀ v, v < Λ 0 1 → ∀ q, q < Λ 0 0 → zLe (sh v q)) (hno : ∀ v, v < Λ 0 1 → (∀ q, q < Λ 0 0 → ∀ t, t < y → mi 225 (zYo v q t) = nI (yg v q t)) ∧ ∀ t, t < y → mi 225 (zPa v t) = nI (pm v t)) : zMet G 3 yX8_records cX8_records 3 none [.ref 224] 238 mi ml mr 238 (zPv fun u b c => zFs9 u mi ∧ (∀ k, k < 950 → u 225 k = mi 225 k) ∧ (∀ v, v < Λ 0 1 → zYno (u 225) (Λ 0 0) v y (zNote (Λ 0 0) y (sh v) (yg v) (pm v)).2.1 (zNote (Λ 0 0) y (sh v) (yg v) (pm v)).2.2) ∧ b = ml ∧ c = mr) := by
  refine z_intro ([.ref 224, zx, zx]) (by decide) rfl (Nat.le_of_ble_eq_true rfl) ?_
  refine e_iconst 1 hic_0 dX8_records_0 rfl ?_
  refine e_istore_n 2 dX8_records_1 rfl (by decide) (zst1_1 rfl) ?_
  exact l_X8_records G _ _ hr hd0 hW hy0 hy hs hle (Λ 0 1) 0 mi _ (by omega) ⟨zFs9.r mi, fun _ _ => rfl, fun v hv => (hno v hv).1, fun v hv => (hno v hv).2, fun v q _ _ z => absurd z (by omega), fun v hv => absurd hv (Nat.not_lt_zero _)⟩ (fun u2 hI => ⟨rfl, hI.1, hI.2.1, hI.nos hW, rfl, rfl⟩)

