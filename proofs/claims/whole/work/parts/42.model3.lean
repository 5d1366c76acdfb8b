/-- the row of word w, place p, raised to v from age a0 on as far as a -/
def zSgI (mi u : zFi) (w p : Nat) (f : Nat → Nat) (v a0 a : Nat) : Prop := zFs9 u mi ∧ (∀ j, (∀ x, 10 ≤ x → x ≤ 69 → j ≠ zAt w p x) → u 225 j = mi 225 j) ∧ ∀ x, 10 ≤ x → x ≤ 69 → u 225 (zAt w p x) = nI (if a0 ≤ x ∧ x < a then zMaxF v (f x) else f x)
theorem zSgI.z {mi : zFi} {w p : Nat} {f : Nat → Nat} {v a0 : Nat} (h : ∀ x, 10 ≤ x → x ≤ 69 → mi 225 (zAt w p x) = nI (f x)) : zSgI mi mi w p f v a0 a0 := ⟨zFs9.r mi, fun _ _ => rfl, fun x h1 h2 => by rw [if_neg (by omega)]; exact h x h1 h2⟩
theorem zSgI.at {mi u : zFi} {w p : Nat} {f : Nat → Nat} {v a0 a : Nat} (h : zSgI mi u w p f v a0 a) (h1 : 10 ≤ a) (h2 : a ≤ 69) : u 225 (zAt w p a) = nI (f a) := by
  rw [h.2.2 a h1 h2, if_neg (by omega)]
theorem zSgI.far {mi u : zFi} {w p : Nat} {f : Nat → Nat} {v a0 a : Nat} (h : zSgI mi u w p f v a0 a) {j : Nat} (hj : j < 50 ∨ 950 ≤ j) (hw : w < 5) (hp : p < 3) : u 225 j = mi 225 j := h.2.1 j (fun x h1 h2 => by unfold zAt; omega)
theorem zSgI.st {mi u : zFi} {w p : Nat} {f : Nat → Nat} {v a0 a m : Nat} (h : zSgI mi u w p f v a0 a) (h1 : 10 ≤ a) (h2 : a ≤ 69) (ha : a0 ≤ a) (hm : m = zMaxF v (f a)) : zSgI mi (zp u 225 (zAt w p a) (nI m)) w p f v a0 (a + 1) := by
  refine ⟨zFs9.p.t h.1, fun j hj => ?_, fun x g1 g2 => ?_⟩
  · rw [zp_k _ _ (hj a h1 h2)]; exact h.2.1 j hj
  · by_cases e : x = a
    · subst e; rw [zp_s, if_pos (by omega), hm]
    · rw [zp_k _ _ (by unfold zAt; omega), h.2.2 x g1 g2]
      by_cases q : a0 ≤ x ∧ x < a
      · rw [if_pos q, if_pos (by omega)]
      · rw [if_neg q, if_neg (by omega)]
/-- the shares of all words, the rest of the row as it was -/
def zShI (mi u : zFi) (Λ : zLd) (sh : Nat → Nat → Nat → Nat) : Prop := zFs9 u mi ∧ (∀ k, k < 50 ∨ 950 ≤ k → u 225 k = mi 225 k) ∧ ∀ v, v < Λ 0 1 → zYsh (u 225) (Λ 0 0) v (sh v)
theorem zShI.e {mi u : zFi} {Λ : zLd} {sh sh' : Nat → Nat → Nat → Nat} (h : zShI mi u Λ sh) (e : ∀ v, v < Λ 0 1 → sh v = sh' v) : zShI mi u Λ sh' := ⟨h.1, h.2.1, fun v hv => by rw [← e v hv]; exact h.2.2 v hv⟩
theorem zShI.row {mi u u2 : zFi} {Λ : zLd} {sh : Nat → Nat → Nat → Nat} {w p a1 a2 v : Nat} (hW : zLandW Λ) (hw : w < Λ 0 1) (hp : p < Λ 0 0) (h : zShI mi u Λ sh) (h2 : zSgI u u2 w p (sh w p) v a1 (a2 + 1)) : zShI mi u2 Λ (zu sh w (zRaise p a1 a2 v (sh w))) := by
  have hP3 := hW.1.1
  have hW5 := hW.1.2.1
  refine ⟨h2.1.t h.1, fun k hk => (h2.far hk (by omega) (by omega)).trans (h.2.1 k hk), fun x hx q hq a g1 g2 => ?_⟩
  by_cases e : x = w
  · subst e
    rw [zu_s]
    by_cases e2 : q = p
    · subst e2
      have e3 : zRaise q a1 a2 v (sh x) q a = if a1 ≤ a ∧ a < a2 + 1 then zMaxF v (sh x q a) else sh x q a := by
        unfold zRaise zRaise1
        rw [if_pos rfl]
        by_cases z : a1 ≤ a ∧ a ≤ a2
        · rw [if_pos z, if_pos (by omega)]
        · rw [if_neg z, if_neg (by omega)]
      rw [e3]
      exact h2.2.2 a g1 g2
    · have e3 : zRaise p a1 a2 v (sh x) q a = sh x q a := by unfold zRaise; rw [if_neg e2]
      rw [e3, h2.2.1 _ (fun y k1 k2 => by unfold zAt; omega)]
      exact h.2.2 x hx q hq a g1 g2
  · rw [zu_n _ _ e, h2.2.1 _ (fun y k1 k2 => by unfold zAt; omega)]
    exact h.2.2 x hx q hq a g1 g2
set_option maxHeartbeats 4000000 in
set_option maxRecDepth 100000 in
theorem l_X8_sings (G : zG) (d : Nat) (Q : zQ) {D E : Nat} {Λ : zLd} {mi : zFi} {ml : zFl} {mr : zFr} (hr : zRf mr D E) (hd0 : zYd mi Λ) (hW : zLandW Λ) {y : Nat} (hy0 : mi 225 0 = nI y) (hy : y ≤ 99) {w p g : Nat} (hw : w < Λ 0 1) (hp : p < Λ 0 0) (hg : g ≤ 99) {f : Nat → Nat} (hf : ∀ x, 10 ≤ x → x ≤ 69 → mi 225 (zAt w p x) = nI (f x)) (hle : zLe f) (hc : Λ 3 w ≤ y) : ∀ (k a : Nat) (u : zFi) (v5 : Value), 13 ≤ a → a + k = 20 → zSgI mi u w p f (10 * g) 13 a → (∀ u2, zSgI mi u2 w p f (10 * g) 13 20 → Q none u2 ml mr) → zE G (zRm (d + 1) 238 238) (zQm G 238 238 Q) yX8_sings.cls yX8_sings.name cX8_sings 6 none 238 4 [.ref 224, .int (nI w), .int (nI p), .int (nI g), .int (nI a), v5] [] 238 u ml mr := by
  intro k
  induction k with
  | zero =>
    intro a u v5 ha h hI hQ
    have hd := hd0.s hI.1
    have hP3 := hW.1.1
    have hW5 := hW.1.2.1
    have hy1 := (hI.far (j := 0) (by omega) (by omega) (by omega)).trans hy0
    refine e_iload 6 dX8_sings_4 rfl rfl ?_
    refine e_bipush 8 hbi_20 dX8_sings_6 rfl ?_
    refine e_icmp_geN 69 11 dX8_sings_8 (by decide) rfl (by omega) (by omega) (fun h8 => ?_) (fun h8 => ?_)
    · refine e_vreturn dX8_sings_69 rfl ?_
      have e : a = 20 := by omega
      subst e
      exact hQ u hI
    · exact absurd h8 (by omega)
  | succ k ih =>
    intro a u v5 ha h hI hQ
    have hd := hd0.s hI.1
    have hP3 := hW.1.1
    have hW5 := hW.1.2.1
    have hy1 := (hI.far (j := 0) (by omega) (by omega) (by omega)).trans hy0
    refine e_iload 6 dX8_sings_4 rfl rfl ?_
    refine e_bipush 8 hbi_20 dX8_sings_6 rfl ?_
    refine e_icmp_geN 69 11 dX8_sings_8 (by decide) rfl (by omega) (by omega) (fun h8 => ?_) (fun h8 => ?_)
    · exact absurd h8 (by omega)
    · refine e_aload_n 12 dX8_sings_11 rfl rfl ?_
      refine e_iload_n 13 dX8_sings_12 rfl rfl ?_
      refine c_Vqi 16 (ci := 8) dX8_sings_13 (k_X8_isCoined G hr hd hW hw hy1 hy) lm_X8_159 zi_yX8_isCoined zs_yX8_isCoined rfl rfl (by decide) rfl rfl rfl (Nat.le_of_ble_eq_true rfl) (Nat.le_of_ble_eq_true rfl) (Nat.le_of_ble_eq_true rfl) (by exact Nat.le_refl _) (by exact Nat.le_refl _) ?_
      refine e_if_eq 69 19 dX8_sings_16 (by decide) rfl (fun h16 => ?_) (fun h16 => ?_)
      · exact absurd hc (zB_0 h16)
      · refine e_iload_n 20 dX8_sings_19 rfl rfl ?_
        refine e_iload_n 21 dX8_sings_20 rfl rfl ?_
        refine e_iload 23 dX8_sings_21 rfl rfl ?_
        refine c_Sqi 26 dX8_sings_23 (k_X8_at G) lm_X8_162 zt_yX8_at rfl rfl rfl (Nat.le_of_ble_eq_true rfl) (Nat.le_of_ble_eq_true rfl) (Nat.le_of_ble_eq_true rfl) (by exact Nat.le_refl _) (by exact Nat.le_refl _) ?_
        refine e_istore 28 dX8_sings_26 rfl (by decide) (zst1_5 rfl) ?_
        refine e_aload_n 29 dX8_sings_28 rfl rfl ?_
        refine e_getr 32 dX8_sings_29 lf_X8_7 rfl rfl rfl (by decide) hr.ys ?_
        refine e_iload 34 dX8_sings_32 rfl rfl ?_
        refine e_aload_n 35 dX8_sings_34 rfl rfl ?_
        refine e_getr 38 dX8_sings_35 lf_X8_7 rfl rfl rfl (by decide) hr.ys ?_
        refine e_iload 40 dX8_sings_38 rfl rfl ?_
        refine e_iald 41 dX8_sings_40 rfl rfl (by decide) rfl (by show zAt w p a < 2950; unfold zAt; omega) (hI.at (by omega) (by omega)) ?_
        refine e_bipush 43 hbi_10 dX8_sings_41 rfl ?_
        refine e_iload_n 44 dX8_sings_43 rfl rfl ?_
        first | refine e_imulN 45 dX8_sings_44 rfl ?_ | refine e_imul 45 dX8_sings_44 rfl ?_
        refine e_icmp_geN 55 48 dX8_sings_45 (by decide) rfl (by have := hle a (by omega) (by omega); omega) (by omega) (fun h45 => ?_) (fun h45 => ?_)
        · refine e_aload_n 56 dX8_sings_55 rfl rfl ?_
          refine e_getr 59 dX8_sings_56 lf_X8_7 rfl rfl rfl (by decide) hr.ys ?_
          refine e_iload 61 dX8_sings_59 rfl rfl ?_
          refine e_iald 62 dX8_sings_61 rfl rfl (by decide) rfl (by show zAt w p a < 2950; unfold zAt; omega) (hI.at (by omega) (by omega)) ?_
          refine e_iast 63 dX8_sings_62 rfl rfl (by decide) rfl (by show zAt w p a < 2950; unfold zAt; omega) ?_
          refine e_iinc 66 dX8_sings_63 rfl (by decide) rfl (z_inc hii_1) (zst1_4 rfl) ?_
          refine e_goto 4 dX8_sings_66 (by decide) ?_
          first
            | exact ih (a + 1) _ _ (by omega) (by omega) (hI.st (m := f a) (by omega) (by omega) ha (by unfold zMaxF; omega)) hQ
            | exact ih (a + 1) _ _ (by omega) (by omega) (hI.st (m := 10 * g) (by omega) (by omega) ha (by unfold zMaxF; omega)) hQ
        · refine e_bipush 50 hbi_10 dX8_sings_48 rfl ?_
          refine e_iload_n 51 dX8_sings_50 rfl rfl ?_
          first | refine e_imulN 52 dX8_sings_51 rfl ?_ | refine e_imul 52 dX8_sings_51 rfl ?_
          refine e_goto 62 dX8_sings_52 (by decide) ?_
          refine e_iast 63 dX8_sings_62 rfl rfl (by decide) rfl (by show zAt w p a < 2950; unfold zAt; omega) ?_
          refine e_iinc 66 dX8_sings_63 rfl (by decide) rfl (z_inc hii_1) (zst1_4 rfl) ?_
          refine e_goto 4 dX8_sings_66 (by decide) ?_
          first
            | exact ih (a + 1) _ _ (by omega) (by omega) (hI.st (m := f a) (by omega) (by omega) ha (by unfold zMaxF; omega)) hQ
            | exact ih (a + 1) _ _ (by omega) (by omega) (hI.st (m := 10 * g) (by omega) (by omega) ha (by unfold zMaxF; omega)) hQ
set_option maxHeartbeats 4000000 in
set_option maxRecDepth 100000 in
theorem k_X8_sings (G : zG) {D E : Nat} {Λ : zLd} {mi : zFi} {ml : zFl} {mr : zFr} (hr : zRf mr D E) (hd0 : zYd mi Λ) (hW : zLandW Λ) {y : Nat} (hy0 : mi 225 0 = nI y) (hy : y ≤ 99) {w p g : Nat} (hw : w < Λ 0 1) (hp : p < Λ 0 0) (hg : g ≤ 99) {f : Nat → Nat} (hf : ∀ x, 10 ≤ x → x ≤ 69 → mi 225 (zAt w p x) = nI (f x)) (hle : zLe f) : zMet G 1 yX8_sings cX8_sings 6 none [.ref 224, .int (nI w), .int (nI p), .int (nI g)] 238 mi ml mr 238 (zPv fun u b c => ((Λ 3 w ≤ y ∧ zSgI mi u w p f (10 * g) 13 20) ∨ (¬ Λ 3 w ≤ y ∧ u = mi)) ∧ b = ml ∧ c = mr) := by
  refine z_intro ([.ref 224, .int (nI w), .int (nI p), .int (nI g), zx, zx]) (by decide) rfl (Nat.le_of_ble_eq_true rfl) ?_
  refine e_bipush 2 hbi_13 dX8_sings_0 rfl ?_
  refine e_istore 4 dX8_sings_2 rfl (by decide) (zst1_4 rfl) ?_
  by_cases hc : Λ 3 w ≤ y
  · exact l_X8_sings G _ _ hr hd0 hW hy0 hy hw hp hg hf hle hc 7 13 mi _ (by decide) (by decide) (zSgI.z hf) (fun u2 hI => ⟨rfl, Or.inl ⟨hc, hI⟩, rfl, rfl⟩)
  · refine e_iload 6 dX8_sings_4 rfl rfl ?_
    refine e_bipush 8 hbi_20 dX8_sings_6 rfl ?_
    refine e_icmp_geN 69 11 dX8_sings_8 (by decide) rfl (by decide) (by decide) (fun h8 => ?_) (fun h8 => ?_)
    · exact absurd h8 (by decide)
    · refine e_aload_n 12 dX8_sings_11 rfl rfl ?_
      refine e_iload_n 13 dX8_sings_12 rfl rfl ?_
      refine c_Vqi 16 (ci := 8) dX8_sings_13 (k_X8_isCoined G hr hd0 hW hw hy0 hy) lm_X8_159 zi_yX8_isCoined zs_yX8_isCoined rfl rfl (by decide) rfl rfl rfl (Nat.le_of_ble_eq_true rfl) (Nat.le_of_ble_eq_true rfl) (Nat.le_of_ble_eq_true rfl) (by exact Nat.le_refl _) (by exact Nat.le_refl _) ?_
      refine e_if_eq 69 19 dX8_sings_16 (by decide) rfl (fun h16 => ?_) (fun h16 => ?_)
      · refine e_vreturn dX8_sings_69 rfl ?_
        exact ⟨rfl, Or.inr ⟨hc, rfl⟩, rfl, rfl⟩
      · exact absurd (zB_1 h16) hc

set_option maxHeartbeats 4000000 in
set_option maxRecDepth 100000 in
theorem m_X8_coin (G : zG) (d : Nat) (Q : zQ) {D E : Nat} {Λ : zLd} {mi : zFi} {ml : zFl} {mr : zFr} (hr : zRf mr D E) (hd0 : zYd mi Λ) (hW : zLandW Λ) {y : Nat} (hy0 : mi 225 0 = nI y) (hy : y ≤ 99) {w : Nat} (hw : w < Λ 0 1) {f : Nat → Nat} (hle : zLe f) (hc : Λ 3 w = y) : ∀ (k a : Nat) (u : zFi) (v3 : Value), 15 ≤ a → a + k = 18 → zSgI mi u w (Λ 4 w) f (10 * Λ 0 5) 15 a → (∀ u2 v3, zSgI mi u2 w (Λ 4 w) f (10 * Λ 0 5) 15 18 → zE G (zRm (d + 4) 238 238) (zQm G 238 238 Q) yX8_comes.cls yX8_comes.name cX8_comes 4 none 238 102 [.ref 224, .int (nI w), .int (nI 18), v3] [] 238 u2 ml mr) → zE G (zRm (d + 4) 238 238) (zQm G 238 238 Q) yX8_comes.cls yX8_comes.name cX8_comes 4 none 238 13 [.ref 224, .int (nI w), .int (nI a), v3] [] 238 u ml mr := by
  intro k
  induction k with
  | zero =>
    intro a u v3 ha h hI hQ
    have hd := hd0.s hI.1
    have hP3 := hW.1.1
    have hW5 := hW.1.2.1
    have hst := hW.1.2.2.2.2.2.2
    have hh := (hW.2.2 w hw).2.2.1
    have hy1 := (hI.far (j := 0) (by omega) (by omega) (by omega)).trans hy0
    refine e_iload_n 14 dX8_comes_13 rfl rfl ?_
    refine e_bipush 16 hbi_18 dX8_comes_14 rfl ?_
    refine e_icmp_geN 102 19 dX8_comes_16 (by decide) rfl (by omega) (by omega) (fun h16 => ?_) (fun h16 => ?_)
    · have e : a = 18 := by omega
      subst e
      exact hQ u _ hI
    · exact absurd h16 (by omega)
  | succ k ih =>
    intro a u v3 ha h hI hQ
    have hd := hd0.s hI.1
    have hP3 := hW.1.1
    have hW5 := hW.1.2.1
    have hst := hW.1.2.2.2.2.2.2
    have hh := (hW.2.2 w hw).2.2.1
    have hy1 := (hI.far (j := 0) (by omega) (by omega) (by omega)).trans hy0
    refine e_iload_n 14 dX8_comes_13 rfl rfl ?_
    refine e_bipush 16 hbi_18 dX8_comes_14 rfl ?_
    refine e_icmp_geN 102 19 dX8_comes_16 (by decide) rfl (by omega) (by omega) (fun h16 => ?_) (fun h16 => ?_)
    · exact absurd h16 (by omega)
    · refine e_aload_n 20 dX8_comes_19 rfl rfl ?_
      refine e_getr 23 dX8_comes_20 lf_X8_32 rfl rfl rfl (by decide) hr.yw ?_
      refine e_iconst 24 hic_4 dX8_comes_23 rfl ?_
      refine e_iload_n 25 dX8_comes_24 rfl rfl ?_
      first | refine e_imulN 26 dX8_comes_25 rfl ?_ | refine e_imul 26 dX8_comes_25 rfl ?_
      refine e_iconst 27 hic_1 dX8_comes_26 rfl ?_
      first | refine e_iaddN 28 dX8_comes_27 rfl ?_ | refine e_iadd 28 dX8_comes_27 rfl ?_
      refine e_iald (v := nI (Λ 3 w)) 29 dX8_comes_28 rfl rfl (by decide) rfl (by show _ < 40; omega) (hd.2.2.2 w hw 1 (by decide)) ?_
      refine e_aload_n 30 dX8_comes_29 rfl rfl ?_
      refine e_getr 33 dX8_comes_30 lf_X8_7 rfl rfl rfl (by decide) hr.ys ?_
      refine e_iconst 34 hic_0 dX8_comes_33 rfl ?_
      refine e_iald 35 dX8_comes_34 rfl rfl (by decide) rfl (by show 0 < 2950; decide) hy1 ?_
      refine e_icmp_neN 102 38 dX8_comes_35 (by decide) rfl (by have := (hW.2.2 w hw).2.1; omega) (by omega) (fun h35 => ?_) (fun h35 => ?_)
      · exact absurd hc h35
      · refine e_iload_n 39 dX8_comes_38 rfl rfl ?_
        refine e_aload_n 40 dX8_comes_39 rfl rfl ?_
        refine e_getr 43 dX8_comes_40 lf_X8_32 rfl rfl rfl (by decide) hr.yw ?_
        refine e_iconst 44 hic_4 dX8_comes_43 rfl ?_
        refine e_iload_n 45 dX8_comes_44 rfl rfl ?_
        first | refine e_imulN 46 dX8_comes_45 rfl ?_ | refine e_imul 46 dX8_comes_45 rfl ?_
        refine e_iconst 47 hic_2 dX8_comes_46 rfl ?_
        first | refine e_iaddN 48 dX8_comes_47 rfl ?_ | refine e_iadd 48 dX8_comes_47 rfl ?_
        refine e_iald (v := nI (Λ 4 w)) 49 dX8_comes_48 rfl rfl (by decide) rfl (by show _ < 40; omega) (hd.2.2.2 w hw 2 (by decide)) ?_
        refine e_iload_n 50 dX8_comes_49 rfl rfl ?_
        refine c_Sqi 53 dX8_comes_50 (k_X8_at G) lm_X8_162 zt_yX8_at rfl rfl rfl (Nat.le_of_ble_eq_true rfl) (Nat.le_of_ble_eq_true rfl) (Nat.le_of_ble_eq_true rfl) (by exact Nat.le_refl _) (by exact Nat.le_refl _) ?_
        refine e_istore_n 54 dX8_comes_53 rfl (by decide) (zst1_3 rfl) ?_
        refine e_aload_n 55 dX8_comes_54 rfl rfl ?_
        refine e_getr 58 dX8_comes_55 lf_X8_7 rfl rfl rfl (by decide) hr.ys ?_
        refine e_iload_n 59 dX8_comes_58 rfl rfl ?_
        refine e_aload_n 60 dX8_comes_59 rfl rfl ?_
        refine e_getr 63 dX8_comes_60 lf_X8_7 rfl rfl rfl (by decide) hr.ys ?_
        refine e_iload_n 64 dX8_comes_63 rfl rfl ?_
        refine e_iald 65 dX8_comes_64 rfl rfl (by decide) rfl (by show zAt w (Λ 4 w) a < 2950; unfold zAt; omega) (hI.at (by omega) (by omega)) ?_
        refine e_bipush 67 hbi_10 dX8_comes_65 rfl ?_
        refine e_aload_n 68 dX8_comes_67 rfl rfl ?_
        refine e_getr 71 dX8_comes_68 lf_X8_26 rfl rfl rfl (by decide) hr.yl ?_
        refine e_iconst 72 hic_3 dX8_comes_71 rfl ?_
        refine e_iald (v := nI (Λ 0 5)) 73 dX8_comes_72 rfl rfl (by decide) rfl (by show 3 < 10; decide) (hd.2.1 3 (by decide)) ?_
        first | refine e_imulN 74 dX8_comes_73 rfl ?_ | refine e_imul 74 dX8_comes_73 rfl ?_
        refine e_icmp_geN 89 77 dX8_comes_74 (by decide) rfl (by have := hle a (by omega) (by omega); omega) (by omega) (fun h74 => ?_) (fun h74 => ?_)
        · refine e_aload_n 90 dX8_comes_89 rfl rfl ?_
          refine e_getr 93 dX8_comes_90 lf_X8_7 rfl rfl rfl (by decide) hr.ys ?_
          refine e_iload_n 94 dX8_comes_93 rfl rfl ?_
          refine e_iald 95 dX8_comes_94 rfl rfl (by decide) rfl (by show zAt w (Λ 4 w) a < 2950; unfold zAt; omega) (hI.at (by omega) (by omega)) ?_
          refine e_iast 96 dX8_comes_95 rfl rfl (by decide) rfl (by show zAt w (Λ 4 w) a < 2950; unfold zAt; omega) ?_
          refine e_iinc 99 dX8_comes_96 rfl (by decide) rfl (z_inc hii_1) (zst1_2 rfl) ?_
          refine e_goto 13 dX8_comes_99 (by decide) ?_
          first
            | exact ih (a + 1) _ _ (by omega) (by omega) (hI.st (m := f a) (by omega) (by omega) ha (by unfold zMaxF; omega)) hQ
            | exact ih (a + 1) _ _ (by omega) (by omega) (hI.st (m := 10 * Λ 0 5) (by omega) (by omega) ha (by unfold zMaxF; omega)) hQ
        · refine e_bipush 79 hbi_10 dX8_comes_77 rfl ?_
          refine e_aload_n 80 dX8_comes_79 rfl rfl ?_
          refine e_getr 83 dX8_comes_80 lf_X8_26 rfl rfl rfl (by decide) hr.yl ?_
          refine e_iconst 84 hic_3 dX8_comes_83 rfl ?_
          refine e_iald (v := nI (Λ 0 5)) 85 dX8_comes_84 rfl rfl (by decide) rfl (by show 3 < 10; decide) (hd.2.1 3 (by decide)) ?_
          first | refine e_imulN 86 dX8_comes_85 rfl ?_ | refine e_imul 86 dX8_comes_85 rfl ?_
          refine e_goto 95 dX8_comes_86 (by decide) ?_
          refine e_iast 96 dX8_comes_95 rfl rfl (by decide) rfl (by show zAt w (Λ 4 w) a < 2950; unfold zAt; omega) ?_
          refine e_iinc 99 dX8_comes_96 rfl (by decide) rfl (z_inc hii_1) (zst1_2 rfl) ?_
          refine e_goto 13 dX8_comes_99 (by decide) ?_
          first
            | exact ih (a + 1) _ _ (by omega) (by omega) (hI.st (m := f a) (by omega) (by omega) ha (by unfold zMaxF; omega)) hQ
            | exact ih (a + 1) _ _ (by omega) (by omega) (hI.st (m := 10 * Λ 0 5) (by omega) (by omega) ha (by unfold zMaxF; omega)) hQ
