/-- the first k cells of r are those from b on -/
def zCpI (r b lim : Nat) (mi u : zFi) (k : Nat) : Prop := (∀ q, q ≠ r → u q = mi q) ∧ (∀ j, j < k → u r j = mi r (b + j)) ∧ ∀ j, lim ≤ j → u r j = mi r j
theorem zCpI.s {r b lim k : Nat} {mi u : zFi} {v : Int32} (hb : lim ≤ b) (hk : k < lim) (h : zCpI r b lim mi u k) (hv : v = mi r (b + k)) : zCpI r b lim mi (zp u r k v) (k + 1) := by
  refine ⟨fun q hq => (zp_r _ _ _ hq).trans (h.1 q hq), fun j hj => ?_, fun j hj => (zp_k _ _ (by omega)).trans (h.2.2 j hj)⟩
  by_cases e : j = k
  · rw [e, zp_s]; exact hv
  · rw [zp_k _ _ e]; exact h.2.1 j (by omega)
theorem zCpI.z {r b lim : Nat} {mi : zFi} : zCpI r b lim mi mi 0 := ⟨fun _ _ => rfl, fun j hj => absurd hj (Nat.not_lt_zero _), fun _ _ => rfl⟩
set_option maxHeartbeats 4000000 in
set_option maxRecDepth 100000 in
theorem l_X8_adopts1 (G : zG) (d : Nat) (Q : zQ) {D E : Nat} {mi : zFi} {ml : zFl} {mr : zFr} (hr : zRf mr D E) : ∀ (k k9 : Nat) (u : zFi), k9 + k = 4 → zCpI 230 5 4 mi u k9 → (∀ u2, zCpI 230 5 4 mi u2 4 → zE G (zRm (d + 6) 238 238) (zQm G 238 238 Q) yX8_adopts.cls yX8_adopts.name cX8_adopts 2 none 238 27 [.ref 224, .int (nI 4)] [] 238 u2 ml mr) → zE G (zRm (d + 6) 238 238) (zQm G 238 238 Q) yX8_adopts.cls yX8_adopts.name cX8_adopts 2 none 238 2 [.ref 224, .int (nI k9)] [] 238 u ml mr := by
  intro k
  induction k with
  | zero =>
    intro k9 u h hI hQ
    refine e_iload_n 3 dX8_adopts_2 rfl rfl ?_
    refine e_iconst 4 hic_4 dX8_adopts_3 rfl ?_
    refine e_icmp_geN 27 7 dX8_adopts_4 (by decide) rfl (by omega) (by omega) (fun h4 => ?_) (fun h4 => ?_)
    · have e : k9 = 4 := by omega
      subst e
      exact hQ u hI
    · exact absurd h4 (by omega)
  | succ k ih =>
    intro k9 u h hI hQ
    refine e_iload_n 3 dX8_adopts_2 rfl rfl ?_
    refine e_iconst 4 hic_4 dX8_adopts_3 rfl ?_
    refine e_icmp_geN 27 7 dX8_adopts_4 (by decide) rfl (by omega) (by omega) (fun h4 => ?_) (fun h4 => ?_)
    · exact absurd h4 (by omega)
    · refine e_aload_n 8 dX8_adopts_7 rfl rfl ?_
      refine e_getr 11 dX8_adopts_8 lf_X8_26 rfl rfl rfl (by decide) hr.yl ?_
      refine e_iload_n 12 dX8_adopts_11 rfl rfl ?_
      refine e_aload_n 13 dX8_adopts_12 rfl rfl ?_
      refine e_getr 16 dX8_adopts_13 lf_X8_26 rfl rfl rfl (by decide) hr.yl ?_
      refine e_iconst 17 hic_5 dX8_adopts_16 rfl ?_
      refine e_iload_n 18 dX8_adopts_17 rfl rfl ?_
      first | refine e_iaddN 19 dX8_adopts_18 rfl ?_ | refine e_iadd 19 dX8_adopts_18 rfl ?_
      refine e_iald 20 dX8_adopts_19 rfl rfl (by decide) rfl (by show 5 + k9 < 10; omega) rfl ?_
      refine e_iast 21 dX8_adopts_20 rfl rfl (by decide) rfl (by show k9 < 10; omega) ?_
      refine e_iinc 24 dX8_adopts_21 rfl (by decide) rfl (z_inc hii_1) (zst1_1 rfl) ?_
      refine e_goto 2 dX8_adopts_24 (by decide) ?_
      exact ih (k9 + 1) _ (by omega) (hI.s (by decide) (by omega) (hI.2.2 _ (by omega))) hQ
set_option maxHeartbeats 4000000 in
set_option maxRecDepth 100000 in
theorem l_X8_adopts2 (G : zG) (d : Nat) (Q : zQ) {D E : Nat} {mi : zFi} {ml : zFl} {mr : zFr} (hr : zRf mr D E) : ∀ (k k9 : Nat) (u : zFi), k9 + k = 9 → zCpI 231 9 9 mi u k9 → (∀ u2, zCpI 231 9 9 mi u2 9 → zE G (zRm (d + 6) 238 238) (zQm G 238 238 Q) yX8_adopts.cls yX8_adopts.name cX8_adopts 2 none 238 56 [.ref 224, .int (nI 9)] [] 238 u2 ml mr) → zE G (zRm (d + 6) 238 238) (zQm G 238 238 Q) yX8_adopts.cls yX8_adopts.name cX8_adopts 2 none 238 29 [.ref 224, .int (nI k9)] [] 238 u ml mr := by
  intro k
  induction k with
  | zero =>
    intro k9 u h hI hQ
    refine e_iload_n 30 dX8_adopts_29 rfl rfl ?_
    refine e_bipush 32 hbi_9 dX8_adopts_30 rfl ?_
    refine e_icmp_geN 56 35 dX8_adopts_32 (by decide) rfl (by omega) (by omega) (fun h32 => ?_) (fun h32 => ?_)
    · have e : k9 = 9 := by omega
      subst e
      exact hQ u hI
    · exact absurd h32 (by omega)
  | succ k ih =>
    intro k9 u h hI hQ
    refine e_iload_n 30 dX8_adopts_29 rfl rfl ?_
    refine e_bipush 32 hbi_9 dX8_adopts_30 rfl ?_
    refine e_icmp_geN 56 35 dX8_adopts_32 (by decide) rfl (by omega) (by omega) (fun h32 => ?_) (fun h32 => ?_)
    · exact absurd h32 (by omega)
    · refine e_aload_n 36 dX8_adopts_35 rfl rfl ?_
      refine e_getr 39 dX8_adopts_36 lf_X8_29 rfl rfl rfl (by decide) hr.yn ?_
      refine e_iload_n 40 dX8_adopts_39 rfl rfl ?_
      refine e_aload_n 41 dX8_adopts_40 rfl rfl ?_
      refine e_getr 44 dX8_adopts_41 lf_X8_29 rfl rfl rfl (by decide) hr.yn ?_
      refine e_bipush 46 hbi_9 dX8_adopts_44 rfl ?_
      refine e_iload_n 47 dX8_adopts_46 rfl rfl ?_
      first | refine e_iaddN 48 dX8_adopts_47 rfl ?_ | refine e_iadd 48 dX8_adopts_47 rfl ?_
      refine e_iald 49 dX8_adopts_48 rfl rfl (by decide) rfl (by show 9 + k9 < 18; omega) rfl ?_
      refine e_iast 50 dX8_adopts_49 rfl rfl (by decide) rfl (by show k9 < 18; omega) ?_
      refine e_iinc 53 dX8_adopts_50 rfl (by decide) rfl (z_inc hii_1) (zst1_1 rfl) ?_
      refine e_goto 29 dX8_adopts_53 (by decide) ?_
      exact ih (k9 + 1) _ (by omega) (hI.s (by decide) (by omega) (hI.2.2 _ (by omega))) hQ
set_option maxHeartbeats 4000000 in
set_option maxRecDepth 100000 in
theorem l_X8_adopts3 (G : zG) (d : Nat) (Q : zQ) {D E : Nat} {mi : zFi} {ml : zFl} {mr : zFr} (hr : zRf mr D E) : ∀ (k k9 : Nat) (u : zFi), k9 + k = 20 → zCpI 232 20 20 mi u k9 → (∀ u2, zCpI 232 20 20 mi u2 20 → zE G (zRm (d + 6) 238 238) (zQm G 238 238 Q) yX8_adopts.cls yX8_adopts.name cX8_adopts 2 none 238 85 [.ref 224, .int (nI 20)] [] 238 u2 ml mr) → zE G (zRm (d + 6) 238 238) (zQm G 238 238 Q) yX8_adopts.cls yX8_adopts.name cX8_adopts 2 none 238 58 [.ref 224, .int (nI k9)] [] 238 u ml mr := by
  intro k
  induction k with
  | zero =>
    intro k9 u h hI hQ
    refine e_iload_n 59 dX8_adopts_58 rfl rfl ?_
    refine e_bipush 61 hbi_20 dX8_adopts_59 rfl ?_
    refine e_icmp_geN 85 64 dX8_adopts_61 (by decide) rfl (by omega) (by omega) (fun h61 => ?_) (fun h61 => ?_)
    · have e : k9 = 20 := by omega
      subst e
      exact hQ u hI
    · exact absurd h61 (by omega)
  | succ k ih =>
    intro k9 u h hI hQ
    refine e_iload_n 59 dX8_adopts_58 rfl rfl ?_
    refine e_bipush 61 hbi_20 dX8_adopts_59 rfl ?_
    refine e_icmp_geN 85 64 dX8_adopts_61 (by decide) rfl (by omega) (by omega) (fun h61 => ?_) (fun h61 => ?_)
    · exact absurd h61 (by omega)
    · refine e_aload_n 65 dX8_adopts_64 rfl rfl ?_
      refine e_getr 68 dX8_adopts_65 lf_X8_32 rfl rfl rfl (by decide) hr.yw ?_
      refine e_iload_n 69 dX8_adopts_68 rfl rfl ?_
      refine e_aload_n 70 dX8_adopts_69 rfl rfl ?_
      refine e_getr 73 dX8_adopts_70 lf_X8_32 rfl rfl rfl (by decide) hr.yw ?_
      refine e_bipush 75 hbi_20 dX8_adopts_73 rfl ?_
      refine e_iload_n 76 dX8_adopts_75 rfl rfl ?_
      first | refine e_iaddN 77 dX8_adopts_76 rfl ?_ | refine e_iadd 77 dX8_adopts_76 rfl ?_
      refine e_iald 78 dX8_adopts_77 rfl rfl (by decide) rfl (by show 20 + k9 < 40; omega) rfl ?_
      refine e_iast 79 dX8_adopts_78 rfl rfl (by decide) rfl (by show k9 < 40; omega) ?_
      refine e_iinc 82 dX8_adopts_79 rfl (by decide) rfl (z_inc hii_1) (zst1_1 rfl) ?_
      refine e_goto 58 dX8_adopts_82 (by decide) ?_
      exact ih (k9 + 1) _ (by omega) (hI.s (by decide) (by omega) (hI.2.2 _ (by omega))) hQ
/-- what adopts leaves -/
def zAdp (mi u : zFi) (Λ : zLd) : Prop := (zYd u Λ ∧ u 230 4 = mi 230 4) ∧ zYs (u 225) Λ (0, mi 225 1, zS0, fun w => zBegin Λ zS0 w) ∧ (u 228 0 = nI 0 ∧ u 228 1 = nI 0 ∧ u 224 23 = nI 0 ∧ u 224 25 = nI 0) ∧ (∀ q, q ≠ 224 → q ≠ 225 → q ≠ 228 → q ≠ 230 → q ≠ 231 → q ≠ 232 → u q = mi q) ∧ ∀ k, k ≠ 16 → k ≠ 17 → k ≠ 23 → k ≠ 25 → u 224 k = mi 224 k
theorem zAd_1 {mi u1 u2 u3 : zFi} {s : zRd} (hd : zYdr mi s) (hw : zLandW s.1) (c1 : zCpI 230 5 4 mi u1 4) (c2 : zCpI 231 9 9 u1 u2 9) (c3 : zCpI 232 20 20 u2 u3 20) {M : zFi} (eM : M = (zp (zp (zp (zp (zp (zp (zp u3 224 16 (nI (s.1 0 0))) 224 17 (nI (s.1 0 1))) 224 23 (nI 0)) 224 25 (nI 0)) 228 0 (nI 0)) 228 1 (nI 0)) 225 2 (nI 0))) : (zYd M s.1 ∧ M 230 4 = mi 230 4) ∧ M 225 2 = nI 0 ∧ (M 228 0 = nI 0 ∧ M 228 1 = nI 0 ∧ M 224 23 = nI 0 ∧ M 224 25 = nI 0) ∧ (∀ q, q ≠ 224 → q ≠ 225 → q ≠ 228 → q ≠ 230 → q ≠ 231 → q ≠ 232 → M q = mi q) ∧ (∀ k, k ≠ 16 → k ≠ 17 → k ≠ 23 → k ≠ 25 → M 224 k = mi 224 k) ∧ M 225 1 = mi 225 1 := by
  have e3 : ∀ q, q ≠ 224 → q ≠ 225 → q ≠ 228 → M q = u3 q := fun q a b c => by rw [eM, zp_r _ _ _ b, zp_r _ _ _ c, zp_r _ _ _ c, zp_r _ _ _ a, zp_r _ _ _ a, zp_r _ _ _ a, zp_r _ _ _ a]
  have e4 : ∀ k, M 224 k = (zp (zp (zp (zp u3 224 16 (nI (s.1 0 0))) 224 17 (nI (s.1 0 1))) 224 23 (nI 0)) 224 25 (nI 0)) 224 k := fun k => by rw [eM, zp_r _ _ _ (by decide), zp_r _ _ _ (by decide), zp_r _ _ _ (by decide)]
  refine ⟨⟨⟨⟨?_, ?_⟩, fun k hk => ?_, fun j hj => ?_, fun w hw9 i hi => ?_⟩, ?_⟩, by rw [eM, zp_s], ⟨?_, ?_, ?_, ?_⟩, fun q a b c d e f => ?_, fun k a b c d => ?_, ?_⟩
  · rw [e4, zp_k _ _ (by decide), zp_k _ _ (by decide), zp_k _ _ (by decide), zp_s]
  · rw [e4, zp_k _ _ (by decide), zp_k _ _ (by decide), zp_s]
  · rw [e3 230 (by decide) (by decide) (by decide), c3.1 230 (by decide), c2.1 230 (by decide), c1.2.1 k hk]; exact hd.2.1 k hk
  · rw [e3 231 (by decide) (by decide) (by decide), c3.1 231 (by decide), c2.2.1 j hj, c1.1 231 (by decide)]; exact hd.2.2.1 j hj
  · have hW5 := hw.1.2.1
    rw [e3 232 (by decide) (by decide) (by decide), c3.2.1 _ (by omega), c2.1 232 (by decide), c1.1 232 (by decide), ← Nat.add_assoc]; exact hd.2.2.2.1 w hw9 i hi
  · rw [e3 230 (by decide) (by decide) (by decide), c3.1 230 (by decide), c2.1 230 (by decide), c1.2.2 4 (by decide)]
  · rw [eM, zp_r _ _ _ (by decide), zp_k _ _ (by decide), zp_s]
  · rw [eM, zp_r _ _ _ (by decide), zp_s]
  · rw [e4, zp_k _ _ (by decide), zp_s]
  · rw [e4, zp_s]
  · rw [e3 q a b c, c3.1 q f, c2.1 q e, c1.1 q d]
  · rw [e4, zp_k _ _ d, zp_k _ _ c, zp_k _ _ b, zp_k _ _ a, c3.1 224 (by decide), c2.1 224 (by decide), c1.1 224 (by decide)]
  · rw [eM, zp_k _ _ (by decide), zp_r _ _ _ (by decide), zp_r _ _ _ (by decide), zp_r _ _ _ (by decide), zp_r _ _ _ (by decide), zp_r _ _ _ (by decide), zp_r _ _ _ (by decide), c3.1 225 (by decide), c2.1 225 (by decide), c1.1 225 (by decide)]
set_option maxHeartbeats 4000000 in
set_option maxRecDepth 100000 in
theorem k_X8_adopts (G : zG) {D E : Nat} {mi : zFi} {ml : zFl} {mr : zFr} (hr : zRf mr D E) {s : zRd} (hd : zYdr mi s) (hw : zLandW s.1) : zMet G 6 yX8_adopts cX8_adopts 2 none [.ref 224] 238 mi ml mr 238 (zPv fun u b c => zAdp mi u s.1 ∧ b = ml ∧ c = mr) := by
  refine z_intro ([.ref 224, zx]) (by decide) rfl (Nat.le_of_ble_eq_true rfl) ?_
  refine e_iconst 1 hic_0 dX8_adopts_0 rfl ?_
  refine e_istore_n 2 dX8_adopts_1 rfl (by decide) (zst1_1 rfl) ?_
  refine l_X8_adopts1 G 0 _ hr 4 0 mi rfl zCpI.z (fun u1 c1 => ?_)
  refine e_iconst 28 hic_0 dX8_adopts_27 rfl ?_
  refine e_istore_n 29 dX8_adopts_28 rfl (by decide) (zst1_1 rfl) ?_
  refine l_X8_adopts2 G 0 _ hr 9 0 u1 rfl zCpI.z (fun u2 c2 => ?_)
  refine e_iconst 57 hic_0 dX8_adopts_56 rfl ?_
  refine e_istore_n 58 dX8_adopts_57 rfl (by decide) (zst1_1 rfl) ?_
  refine l_X8_adopts3 G 0 _ hr 20 0 u2 rfl zCpI.z (fun u3 c3 => ?_)
  have e224 : u3 224 = mi 224 := (c3.1 224 (by decide)).trans ((c2.1 224 (by decide)).trans (c1.1 224 (by decide)))
  refine e_aload_n 86 dX8_adopts_85 rfl rfl ?_
  refine e_aload_n 87 dX8_adopts_86 rfl rfl ?_
  refine e_geti (v := nI (s.1 0 0)) 90 dX8_adopts_87 lf_X8_113 rfl rfl rfl (by decide) ((congrFun (e224) 18).trans hd.1.1) ?_
  refine e_puti 93 dX8_adopts_90 lf_X8_138 rfl rfl rfl rfl rfl (by decide) ?_
  refine e_aload_n 94 dX8_adopts_93 rfl rfl ?_
  refine e_aload_n 95 dX8_adopts_94 rfl rfl ?_
  refine e_geti (v := nI (s.1 0 1)) 98 dX8_adopts_95 lf_X8_116 rfl rfl rfl (by decide) ((zp_k _ _ (by decide)).trans ((congrFun (e224) 19).trans hd.1.2)) ?_
  refine e_puti 101 dX8_adopts_98 lf_X8_141 rfl rfl rfl rfl rfl (by decide) ?_
  refine e_aload_n 102 dX8_adopts_101 rfl rfl ?_
  refine e_iconst 103 hic_0 dX8_adopts_102 rfl ?_
  refine e_puti 106 dX8_adopts_103 lf_X8_144 rfl rfl rfl rfl rfl (by decide) ?_
  refine e_aload_n 107 dX8_adopts_106 rfl rfl ?_
  refine e_iconst 108 hic_0 dX8_adopts_107 rfl ?_
  refine e_puti 111 dX8_adopts_108 lf_X8_147 rfl rfl rfl rfl rfl (by decide) ?_
  refine e_aload_n 112 dX8_adopts_111 rfl rfl ?_
  refine e_getr 115 dX8_adopts_112 lf_X8_19 rfl rfl rfl (by decide) hr.yi ?_
  refine e_iconst 116 hic_0 dX8_adopts_115 rfl ?_
  refine e_iconst 117 hic_0 dX8_adopts_116 rfl ?_
  refine e_zast 118 dX8_adopts_117 rfl rfl (by decide) rfl (by show 0 < 2; decide) (zNarZ 0 (by decide)) ?_
  refine e_aload_n 119 dX8_adopts_118 rfl rfl ?_
  refine e_getr 122 dX8_adopts_119 lf_X8_19 rfl rfl rfl (by decide) hr.yi ?_
  refine e_iconst 123 hic_1 dX8_adopts_122 rfl ?_
  refine e_iconst 124 hic_0 dX8_adopts_123 rfl ?_
  refine e_zast 125 dX8_adopts_124 rfl rfl (by decide) rfl (by show 1 < 2; decide) (zNarZ 0 (by decide)) ?_
  refine e_aload_n 126 dX8_adopts_125 rfl rfl ?_
  refine e_getr 129 dX8_adopts_126 lf_X8_7 rfl rfl rfl (by decide) hr.ys ?_
  refine e_iconst 130 hic_2 dX8_adopts_129 rfl ?_
  refine e_iconst 131 hic_0 dX8_adopts_130 rfl ?_
  refine e_iast 132 dX8_adopts_131 rfl rfl (by decide) rfl (by show 2 < 2950; decide) ?_
  obtain ⟨M, eM⟩ : ∃ M, M = (zp (zp (zp (zp (zp (zp (zp u3 224 16 (nI (s.1 0 0))) 224 17 (nI (s.1 0 1))) 224 23 (nI 0)) 224 25 (nI 0)) 228 0 (nI 0)) 228 1 (nI 0)) 225 2 (nI 0)) := ⟨_, rfl⟩
  have hM := zAd_1 hd hw c1 c2 c3 eM
  rw [← eM]
  obtain ⟨⟨m1, m2⟩, m3, ⟨m4, m5, m6, m7⟩, m8, m9, m10⟩ := hM
  refine e_aload_n 133 dX8_adopts_132 rfl rfl ?_
  refine c_Vv 136 (ci := 8) dX8_adopts_133 (k_X8_begins G hr m1 hw (S := zS0) (zYsg_0 m3) (zS0_W _ _)) lm_X8_150 zi_yX8_begins zs_yX8_begins rfl rfl (by decide) rfl rfl rfl (Nat.le_of_ble_eq_true rfl) (Nat.le_of_ble_eq_true rfl) (Nat.le_of_ble_eq_true rfl) (by exact Nat.le_refl _) (by exact Nat.le_refl _) ?_
  rintro u4 _ _ ⟨f4, e4, y4, s4, rfl, rfl⟩
  refine e_vreturn dX8_adopts_136 rfl ?_
  exact ⟨rfl, ⟨⟨m1.s f4, (congrFun (f4 230 (by decide)) 4).trans m2⟩, ⟨y4, (e4 1 (by decide) (by decide)).trans m10, (zYsg_0 m3).c (Nat.zero_le _) e4, s4⟩, ⟨(congrFun (f4 228 (by decide)) 0).trans m4, (congrFun (f4 228 (by decide)) 1).trans m5, (congrFun (f4 224 (by decide)) 23).trans m6, (congrFun (f4 224 (by decide)) 25).trans m7⟩, fun q a b c d e f => (f4 q b).trans (m8 q a b c d e f), fun k a b c d => (congrFun (f4 224 (by decide)) k).trans (m9 k a b c d)⟩, rfl, rfl⟩

set_option maxHeartbeats 4000000 in
set_option maxRecDepth 100000 in
theorem l_X8_landE25 (G : zG) (d : Nat) (Q : zQ) {D E : Nat} {t : zTx} {ml : zFl} {mr : zFr} (hr : zRf mr D E) (htw : zTxW t) {u : zFi} {n p : Nat} {v2 : Value} (h : zSq u t (.error p)) (hQ : Q (some (.int (-10 - nI p))) u ml mr) : zE G (zRm (d + 7) 238 238) (zQm G 238 238 Q) yX8_land.cls yX8_land.name cX8_land 3 (some .int) 238 25 [.ref 224, .int (nI n), v2] [] 238 u ml mr := by
  refine e_aload_n 26 dX8_land_25 rfl rfl ?_
  refine c_Vqi 29 (ci := 8) dX8_land_26 (k_X8_isWell_n G hr h.1 (by have := htw.1; have := h.2; omega)) lm_X8_102 zi_yX8_isWell zs_yX8_isWell rfl rfl (by decide) rfl rfl rfl (Nat.le_of_ble_eq_true rfl) (Nat.le_of_ble_eq_true rfl) (Nat.le_of_ble_eq_true rfl) (by exact Nat.le_refl _) (by exact Nat.le_refl _) ?_
  refine e_if_eq 104 32 dX8_land_29 (by decide) rfl (fun h29 => ?_) (fun h29 => ?_)
  · refine e_aload_n 105 dX8_land_104 rfl rfl ?_
    refine c_Vqi 108 (ci := 8) dX8_land_105 (k_X8_isWell_n G hr h.1 (by have := htw.1; have := h.2; omega)) lm_X8_102 zi_yX8_isWell zs_yX8_isWell rfl rfl (by decide) rfl rfl rfl (Nat.le_of_ble_eq_true rfl) (Nat.le_of_ble_eq_true rfl) (Nat.le_of_ble_eq_true rfl) (by exact Nat.le_refl _) (by exact Nat.le_refl _) ?_
    refine e_if_ne 119 111 dX8_land_108 (by decide) rfl (fun h108 => ?_) (fun h108 => ?_)
    · exact absurd rfl h108
    · refine e_bipush 113 hbi_m10 dX8_land_111 rfl ?_
      refine e_aload_n 114 dX8_land_113 rfl rfl ?_
      refine e_geti 117 dX8_land_114 lf_X8_99 rfl rfl rfl (by decide) h.1 ?_
      refine e_isub 118 dX8_land_117 rfl ?_
      refine e_ireturn .int dX8_land_118 rfl rfl ?_
      exact hQ
  · exact absurd rfl h29
set_option maxHeartbeats 4000000 in
set_option maxRecDepth 100000 in
theorem l_X8_landE80 (G : zG) (d : Nat) (Q : zQ) {D E : Nat} {t : zTx} {ml : zFl} {mr : zFr} (hr : zRf mr D E) (htw : zTxW t) {u : zFi} {n p : Nat} {v2 : Value} (h : zSq u t (.error p)) (hQ : ∀ u', zGq zKb u' u → Q (some (.int (-10 - nI p))) u' ml mr) : zE G (zRm (d + 7) 238 238) (zQm G 238 238 Q) yX8_land.cls yX8_land.name cX8_land 3 (some .int) 238 80 [.ref 224, .int (nI n), v2] [] 238 u ml mr := by
  refine e_aload_n 81 dX8_land_80 rfl rfl ?_
  refine e_aload_n 82 dX8_land_81 rfl rfl ?_
  refine e_geti 85 dX8_land_82 lf_X8_89 rfl rfl rfl (by decide) rfl ?_
  refine e_iconst 86 hic_3 dX8_land_85 rfl ?_
  refine e_icmp_ne 93 89 dX8_land_86 (by decide) rfl (fun h86 => ?_) (fun h86 => ?_)
  · refine e_iconst 94 hic_0 dX8_land_93 rfl ?_
    refine c_Vi 97 (ci := 8) dX8_land_94 (k_X8_takes_n G hr htw h) lm_X8_109 zi_yX8_takes zs_yX8_takes rfl rfl (by decide) rfl rfl rfl (Nat.le_of_ble_eq_true rfl) (Nat.le_of_ble_eq_true rfl) (Nat.le_of_ble_eq_true rfl) (by exact Nat.le_refl _) (by exact Nat.le_refl _) ?_
    rintro x2 u2 _ _ ⟨rfl, s2, g2, rfl, rfl⟩
    refine e_pop 98 dX8_land_97 rfl rfl ?_
    refine e_iinc 101 dX8_land_98 rfl (by decide) rfl (z_inc hii_1) (zst1_1 rfl) ?_
    refine e_goto 25 dX8_land_101 (by decide) ?_
    exact l_X8_landE25 G d Q hr htw s2 (hQ u2 g2)
  · refine e_iconst 90 hic_1 dX8_land_89 rfl ?_
    refine e_goto 94 dX8_land_90 (by decide) ?_
    refine c_Vi 97 (ci := 8) dX8_land_94 (k_X8_takes_n G hr htw h) lm_X8_109 zi_yX8_takes zs_yX8_takes rfl rfl (by decide) rfl rfl rfl (Nat.le_of_ble_eq_true rfl) (Nat.le_of_ble_eq_true rfl) (Nat.le_of_ble_eq_true rfl) (by exact Nat.le_refl _) (by exact Nat.le_refl _) ?_
    rintro x2 u2 _ _ ⟨rfl, s2, g2, rfl, rfl⟩
    refine e_pop 98 dX8_land_97 rfl rfl ?_
    refine e_iinc 101 dX8_land_98 rfl (by decide) rfl (z_inc hii_1) (zst1_1 rfl) ?_
    refine e_goto 25 dX8_land_101 (by decide) ?_
    exact l_X8_landE25 G d Q hr htw s2 (hQ u2 g2)
set_option maxHeartbeats 4000000 in
set_option maxRecDepth 100000 in
theorem l_X8_land80 (G : zG) (d : Nat) (Q : zQ) {D E : Nat} {t : zTx} {ml : zFl} {mr : zFr} (hr : zRf mr D E) (htw : zTxW t) {u3 : zFi} {n : Nat} {v2 : Value} {rx : Except Nat (zRd × Nat)} (sd : zSd u3 t rx) (t3 : zYt u3 t) (hErr : ∀ p u', zEnd t rx = .error p → zFrR u' u3 → Q (some (.int (-10 - nI p))) u' ml mr) (hOk : ∀ y u4 v2, zEnd t rx = .ok y → zSq u4 t (.ok y.2) → zYdr u4 y.1 → zFrR u4 u3 → zE G (zRm (d + 7) 238 238) (zQm G 238 238 Q) yX8_land.cls yX8_land.name cX8_land 3 (some .int) 238 25 [.ref 224, .int (nI (n + 1)), v2] [] 238 u4 ml mr) : zE G (zRm (d + 7) 238 238) (zQm G 238 238 Q) yX8_land.cls yX8_land.name cX8_land 3 (some .int) 238 80 [.ref 224, .int (nI n), v2] [] 238 u3 ml mr := by
  rcases rx with p | y
  · exact l_X8_landE80 G d Q hr htw sd (fun u' g => hErr p u' rfl g.fr)
  · refine e_aload_n 81 dX8_land_80 rfl rfl ?_
    refine e_aload_n 82 dX8_land_81 rfl rfl ?_
    refine e_geti 85 dX8_land_82 lf_X8_89 rfl rfl rfl (by decide) sd.1.2.1.2.2.1 ?_
    refine e_iconst 86 hic_3 dX8_land_85 rfl ?_
    refine e_icmp_neN 93 89 dX8_land_86 (by decide) rfl (by have := yTok_lt (t := t) (b := y.2); omega) (by omega) (fun h86 => ?_) (fun h86 => ?_)
    · have hK : ¬ zTkK t y.2 = 2 := fun z => h86 (yTok_3.mpr z)
      have eF : zEnd t (.ok y) = .error (zTkA t y.2) := if_neg hK
      refine e_iconst 94 hic_0 dX8_land_93 rfl ?_
      first
        | (refine c_Vi 97 (ci := 8) dX8_land_94 (k_X8_takes_1 G hr htw sd.1 t3) lm_X8_109 zi_yX8_takes zs_yX8_takes rfl rfl (by decide) rfl rfl rfl (Nat.le_of_ble_eq_true rfl) (Nat.le_of_ble_eq_true rfl) (Nat.le_of_ble_eq_true rfl) (by exact Nat.le_refl _) (by exact Nat.le_refl _) ?_
           rintro x4 u4 _ _ ⟨hx4, s4, g4, rfl, rfl⟩
           refine e_pop 98 dX8_land_97 rfl rfl ?_
           refine e_iinc 101 dX8_land_98 rfl (by decide) rfl (z_inc hii_1) (zst1_1 rfl) ?_
           refine e_goto 25 dX8_land_101 (by decide) ?_
           exact hOk (y.1, zTkE t y.2) u4 _ eF s4 (sd.2.g g4) g4.fr)
        | (refine c_Vi 97 (ci := 8) dX8_land_94 (k_X8_takes_0 G hr htw sd.1 t3) lm_X8_109 zi_yX8_takes zs_yX8_takes rfl rfl (by decide) rfl rfl rfl (Nat.le_of_ble_eq_true rfl) (Nat.le_of_ble_eq_true rfl) (Nat.le_of_ble_eq_true rfl) (by exact Nat.le_refl _) (by exact Nat.le_refl _) ?_
           rintro x4 u4 _ _ ⟨hx4, s4, g4, rfl, rfl⟩
           refine e_pop 98 dX8_land_97 rfl rfl ?_
           refine e_iinc 101 dX8_land_98 rfl (by decide) rfl (z_inc hii_1) (zst1_1 rfl) ?_
           refine e_goto 25 dX8_land_101 (by decide) ?_
           exact l_X8_landE25 G d Q hr htw s4 (hErr _ u4 eF g4.fr))
    · have hK := yTok_3.mp h86
      have eF : zEnd t (.ok y) = .ok (y.1, zTkE t y.2) := if_pos hK
      refine e_iconst 90 hic_1 dX8_land_89 rfl ?_
      refine e_goto 94 dX8_land_90 (by decide) ?_
      first
        | (refine c_Vi 97 (ci := 8) dX8_land_94 (k_X8_takes_1 G hr htw sd.1 t3) lm_X8_109 zi_yX8_takes zs_yX8_takes rfl rfl (by decide) rfl rfl rfl (Nat.le_of_ble_eq_true rfl) (Nat.le_of_ble_eq_true rfl) (Nat.le_of_ble_eq_true rfl) (by exact Nat.le_refl _) (by exact Nat.le_refl _) ?_
           rintro x4 u4 _ _ ⟨hx4, s4, g4, rfl, rfl⟩
           refine e_pop 98 dX8_land_97 rfl rfl ?_
           refine e_iinc 101 dX8_land_98 rfl (by decide) rfl (z_inc hii_1) (zst1_1 rfl) ?_
           refine e_goto 25 dX8_land_101 (by decide) ?_
           exact hOk (y.1, zTkE t y.2) u4 _ eF s4 (sd.2.g g4) g4.fr)
        | (refine c_Vi 97 (ci := 8) dX8_land_94 (k_X8_takes_0 G hr htw sd.1 t3) lm_X8_109 zi_yX8_takes zs_yX8_takes rfl rfl (by decide) rfl rfl rfl (Nat.le_of_ble_eq_true rfl) (Nat.le_of_ble_eq_true rfl) (Nat.le_of_ble_eq_true rfl) (by exact Nat.le_refl _) (by exact Nat.le_refl _) ?_
           rintro x4 u4 _ _ ⟨hx4, s4, g4, rfl, rfl⟩
           refine e_pop 98 dX8_land_97 rfl rfl ?_
           refine e_iinc 101 dX8_land_98 rfl (by decide) rfl (z_inc hii_1) (zst1_1 rfl) ?_
           refine e_goto 25 dX8_land_101 (by decide) ?_
           exact l_X8_landE25 G d Q hr htw s4 (hErr _ u4 eF g4.fr))
theorem zItem_n1 {t : zTx} {s : zRd} {b : Nat} (hb : b ≤ t.1) (h : ¬ yTok t b = 1) : zItem t s b = .error (zTkA t b) := zItem_n hb (fun k hk hs => absurd ((zSp_i hb hk).mp hs).1 h)
theorem zItem_n2 {t : zTx} {s : zRd} {b k6 : Nat} (hb : b ≤ t.1) (hk6 : k6 < 6) (hsp : zSpB t (zTkA t b) (zTkE t b) k6 = true) (hm : ¬ zMayP s k6) : zItem t s b = .error (zTkA t b) := zItem_n hb (fun k hk hs => by
  by_cases e : k6 = k
  · rw [← e]; exact hm
  · exact absurd hs (zSp_u hb hk6 hk hsp e))
theorem zLandF_s (t : zTx) (k n : Nat) (s : zRd) (b : Nat) : zLandF t (k + 1) n s b = if zTkK t b = 0 then .ok (n, s) else match zItem t s b with
    | .error p => .error p
    | .ok y => zLandF t k (n + 1) y.1 y.2 := rfl
theorem zLandF_e1 {t : zTx} {k n b p : Nat} {s : zRd} (h : ¬ zTkK t b = 0) (e : zItem t s b = .error p) : zLandF t (k + 1) n s b = .error p := by rw [zLandF_s, if_neg h, e]
theorem zLandF_o1 {t : zTx} {k n b : Nat} {s : zRd} {y : zRd × Nat} (h : ¬ zTkK t b = 0) (e : zItem t s b = .ok y) : zLandF t (k + 1) n s b = zLandF t k (n + 1) y.1 y.2 := by rw [zLandF_s, if_neg h, e]
set_option maxHeartbeats 4000000 in
set_option maxRecDepth 100000 in
theorem l_X8_land (G : zG) (d : Nat) (Q : zQ) {D E : Nat} {t : zTx} {ml : zFl} {mr : zFr} (hr : zRf mr D E) (htw : zTxW t) : ∀ (k n : Nat) (s : zRd) (b : Nat) (u : zFi) (v2 : Value), n + k = 300 → n ≤ b → zSq u t (.ok b) → zYdr u s → zRdW s → zYt u t → (∀ p u', zLandF t k n s b = .error p → zFrR u' u → Q (some (.int (-10 - nI p))) u' ml mr) → (∀ y u' v2, zLandF t k n s b = .ok y → zYdr u' y.2 → zFrR u' u → zE G (zRm (d + 7) 238 238) (zQm G 238 238 Q) yX8_land.cls yX8_land.name cX8_land 3 (some .int) 238 119 [.ref 224, .int (nI y.1), v2] [] 238 u' ml mr) → zE G (zRm (d + 7) 238 238) (zQm G 238 238 Q) yX8_land.cls yX8_land.name cX8_land 3 (some .int) 238 25 [.ref 224, .int (nI n), v2] [] 238 u ml mr := by
  intro k
  induction k with
  | zero =>
    intro n s b u v2 h hnb sq hd hw ht hE hO
    have ht3 := htw.1
    have hz : yTok t b = 0 := yTok_0.mpr (by unfold zTkK; rw [if_pos (by have := (zTk_b sq.2.2).1; omega)])
    refine e_aload_n 26 dX8_land_25 rfl rfl ?_
    refine c_Vqi 29 (ci := 8) dX8_land_26 (k_X8_isWell_y G hr sq.1) lm_X8_102 zi_yX8_isWell zs_yX8_isWell rfl rfl (by decide) rfl rfl rfl (Nat.le_of_ble_eq_true rfl) (Nat.le_of_ble_eq_true rfl) (Nat.le_of_ble_eq_true rfl) (by exact Nat.le_refl _) (by exact Nat.le_refl _) ?_
    refine e_if_eq 104 32 dX8_land_29 (by decide) rfl (fun h29 => ?_) (fun h29 => ?_)
    · exact absurd h29 (by decide)
    · refine e_aload_n 33 dX8_land_32 rfl rfl ?_
      refine e_geti 36 dX8_land_33 lf_X8_89 rfl rfl rfl (by decide) sq.2.1.2.2.1 ?_
      refine e_if_eqN 104 39 dX8_land_36 (by decide) rfl (by have := yTok_lt (t := t) (b := b); omega) (fun h36 => ?_) (fun h36 => ?_)
      · refine e_aload_n 105 dX8_land_104 rfl rfl ?_
        refine c_Vqi 108 (ci := 8) dX8_land_105 (k_X8_isWell_y G hr sq.1) lm_X8_102 zi_yX8_isWell zs_yX8_isWell rfl rfl (by decide) rfl rfl rfl (Nat.le_of_ble_eq_true rfl) (Nat.le_of_ble_eq_true rfl) (Nat.le_of_ble_eq_true rfl) (by exact Nat.le_refl _) (by exact Nat.le_refl _) ?_
        refine e_if_ne 119 111 dX8_land_108 (by decide) rfl (fun h108 => ?_) (fun h108 => ?_)
        · exact hO (n, s) u _ rfl hd (zFrR.r u)
        · exact absurd h108 (by decide)
      · exact absurd hz (by omega)
  | succ k ih =>
    intro n s b u v2 h hnb sq hd hw ht hE hO
    have ht3 := htw.1
    refine e_aload_n 26 dX8_land_25 rfl rfl ?_
    refine c_Vqi 29 (ci := 8) dX8_land_26 (k_X8_isWell_y G hr sq.1) lm_X8_102 zi_yX8_isWell zs_yX8_isWell rfl rfl (by decide) rfl rfl rfl (Nat.le_of_ble_eq_true rfl) (Nat.le_of_ble_eq_true rfl) (Nat.le_of_ble_eq_true rfl) (by exact Nat.le_refl _) (by exact Nat.le_refl _) ?_
    refine e_if_eq 104 32 dX8_land_29 (by decide) rfl (fun h29 => ?_) (fun h29 => ?_)
    · exact absurd h29 (by decide)
    · refine e_aload_n 33 dX8_land_32 rfl rfl ?_
      refine e_geti 36 dX8_land_33 lf_X8_89 rfl rfl rfl (by decide) sq.2.1.2.2.1 ?_
      refine e_if_eqN 104 39 dX8_land_36 (by decide) rfl (by have := yTok_lt (t := t) (b := b); omega) (fun h36 => ?_) (fun h36 => ?_)
      · have eK : zLandF t (k + 1) n s b = .ok (n, s) := by rw [zLandF_s, if_pos (yTok_0.mp (by omega))]
        refine e_aload_n 105 dX8_land_104 rfl rfl ?_
        refine c_Vqi 108 (ci := 8) dX8_land_105 (k_X8_isWell_y G hr sq.1) lm_X8_102 zi_yX8_isWell zs_yX8_isWell rfl rfl (by decide) rfl rfl rfl (Nat.le_of_ble_eq_true rfl) (Nat.le_of_ble_eq_true rfl) (Nat.le_of_ble_eq_true rfl) (by exact Nat.le_refl _) (by exact Nat.le_refl _) ?_
        refine e_if_ne 119 111 dX8_land_108 (by decide) rfl (fun h108 => ?_) (fun h108 => ?_)
        · exact hO (n, s) u _ eK hd (zFrR.r u)
        · exact absurd h108 (by decide)
      · have hK0 : ¬ zTkK t b = 0 := fun q => by have := yTok_0.mpr q; omega
        refine e_aload_n 40 dX8_land_39 rfl rfl ?_
        refine e_aload_n 41 dX8_land_40 rfl rfl ?_
        refine e_geti 44 dX8_land_41 lf_X8_89 rfl rfl rfl (by decide) sq.2.1.2.2.1 ?_
        refine e_iconst 45 hic_1 dX8_land_44 rfl ?_
        refine e_icmp_neN 63 48 dX8_land_45 (by decide) rfl (by have := yTok_lt (t := t) (b := b); omega) (by omega) (fun h45 => ?_) (fun h45 => ?_)
        · have eI := zItem_n1 (s := s) sq.2.2 h45
          refine e_iconst 64 hic_0 dX8_land_63 rfl ?_
          first
            | (refine c_Vi 67 (ci := 8) dX8_land_64 (k_X8_takes_1 G hr htw sq ht) lm_X8_109 zi_yX8_takes zs_yX8_takes rfl rfl (by decide) rfl rfl rfl (Nat.le_of_ble_eq_true rfl) (Nat.le_of_ble_eq_true rfl) (Nat.le_of_ble_eq_true rfl) (by exact Nat.le_refl _) (by exact Nat.le_refl _) ?_
               rintro x2 u2 _ _ ⟨hx2, s2, g2, rfl, rfl⟩
               have hx2 := hx2.trans ((sq.2.1.2.2.2.2 hK4).trans hw6)
               subst hx2
               have t2 := g2.x (zKb_n (by decide)) ht
               have d2 := hd.g g2
               refine e_istore_n 68 dX8_land_67 rfl (by decide) (zst1_2 rfl) ?_
               refine e_aload_n 69 dX8_land_68 rfl rfl ?_
               refine c_Vqi 72 (ci := 8) dX8_land_69 (k_X8_isWell_y G hr s2.1) lm_X8_102 zi_yX8_isWell zs_yX8_isWell rfl rfl (by decide) rfl rfl rfl (Nat.le_of_ble_eq_true rfl) (Nat.le_of_ble_eq_true rfl) (Nat.le_of_ble_eq_true rfl) (by exact Nat.le_refl _) (by exact Nat.le_refl _) ?_
               refine e_if_eq 80 75 dX8_land_72 (by decide) rfl (fun h72 => ?_) (fun h72 => ?_)
               · exact absurd h72 (by decide)
               · refine e_aload_n 76 dX8_land_75 rfl rfl ?_
                 refine e_iload_n 77 dX8_land_76 rfl rfl ?_
                 refine c_Vv 80 (ci := 8) dX8_land_77 (k_X8_readsItem G hr htw t2 s2 d2 hw hk6 hm) lm_X8_134 zi_yX8_readsItem zs_yX8_readsItem rfl rfl (by decide) rfl rfl rfl (Nat.le_of_ble_eq_true rfl) (Nat.le_of_ble_eq_true rfl) (Nat.le_of_ble_eq_true rfl) (by exact Nat.le_refl _) (by exact Nat.le_refl _) ?_
                 rintro u3 _ _ ⟨⟨sd, f3⟩, rfl, rfl⟩
                 exact l_X8_land80 G d Q hr htw sd (f3.y t2) (fun p u' e f => hE p u' (zLandF_e1 hK0 (eI.trans e)) (f.t (f3.t g2.fr))) (fun y u4 w2 e s4 d4 f4 => ih (n + 1) y.1 y.2 u4 w2 (by omega) (by have := (zItem_W hw sq.2.2 (eI.trans e)).2.1; omega) s4 d4 (zItem_W hw sq.2.2 (eI.trans e)).1 ((f4.t (f3.t g2.fr)).y ht) (fun p u' e9 f9 => hE p u' ((zLandF_o1 hK0 (eI.trans e)).trans e9) (f9.t (f4.t (f3.t g2.fr)))) (fun z u' w9 e9 d9 f9 => hO z u' w9 ((zLandF_o1 hK0 (eI.trans e)).trans e9) d9 (f9.t (f4.t (f3.t g2.fr))))))
            | (refine c_Vi 67 (ci := 8) dX8_land_64 (k_X8_takes_0 G hr htw sq ht) lm_X8_109 zi_yX8_takes zs_yX8_takes rfl rfl (by decide) rfl rfl rfl (Nat.le_of_ble_eq_true rfl) (Nat.le_of_ble_eq_true rfl) (Nat.le_of_ble_eq_true rfl) (by exact Nat.le_refl _) (by exact Nat.le_refl _) ?_
               rintro x2 u2 _ _ ⟨rfl, s2, g2, rfl, rfl⟩
               refine e_istore_n 68 dX8_land_67 rfl (by decide) (zst1_2 rfl) ?_
               refine e_aload_n 69 dX8_land_68 rfl rfl ?_
               refine c_Vqi 72 (ci := 8) dX8_land_69 (k_X8_isWell_n G hr s2.1 (by have := htw.1; have := s2.2; omega)) lm_X8_102 zi_yX8_isWell zs_yX8_isWell rfl rfl (by decide) rfl rfl rfl (Nat.le_of_ble_eq_true rfl) (Nat.le_of_ble_eq_true rfl) (Nat.le_of_ble_eq_true rfl) (by exact Nat.le_refl _) (by exact Nat.le_refl _) ?_
               refine e_if_eq 80 75 dX8_land_72 (by decide) rfl (fun h72 => ?_) (fun h72 => ?_)
               · exact l_X8_landE80 G d Q hr htw s2 (fun u' g => hE _ u' (zLandF_e1 hK0 eI) (g.fr.t g2.fr))
               · exact absurd rfl h72)
        · obtain ⟨k6, hk6, hw6, hsp⟩ := zSp_c sq.2.2 h45
          have hK4 := (yTok_1.mp h45).1
          refine e_aload_n 49 dX8_land_48 rfl rfl ?_
          refine e_aload_n 50 dX8_land_49 rfl rfl ?_
          refine e_geti (v := nI k6) 53 dX8_land_50 lf_X8_96 rfl rfl rfl (by decide) ((sq.2.1.2.2.2.2 hK4).trans hw6) ?_
          refine c_Vi 56 (ci := 8) dX8_land_53 (k_X8_mayBegin G hr hd hw hk6) lm_X8_130 zi_yX8_mayBegin zs_yX8_mayBegin rfl rfl (by decide) rfl rfl rfl (Nat.le_of_ble_eq_true rfl) (Nat.le_of_ble_eq_true rfl) (Nat.le_of_ble_eq_true rfl) (by exact Nat.le_refl _) (by exact Nat.le_refl _) ?_
          rintro x1 u1 _ _ ⟨hx1, rfl, rfl, rfl⟩
          refine e_if_eq 63 59 dX8_land_56 (by decide) rfl (fun h56 => ?_) (fun h56 => ?_)
          · have hm : ¬ zMayP s k6 := (hx1.resolve_left (fun z => absurd (z.1.symm.trans h56) (by decide))).2
            have eI := zItem_n2 sq.2.2 hk6 hsp hm
            refine e_iconst 64 hic_0 dX8_land_63 rfl ?_
            first
              | (refine c_Vi 67 (ci := 8) dX8_land_64 (k_X8_takes_1 G hr htw sq ht) lm_X8_109 zi_yX8_takes zs_yX8_takes rfl rfl (by decide) rfl rfl rfl (Nat.le_of_ble_eq_true rfl) (Nat.le_of_ble_eq_true rfl) (Nat.le_of_ble_eq_true rfl) (by exact Nat.le_refl _) (by exact Nat.le_refl _) ?_
                 rintro x2 u2 _ _ ⟨hx2, s2, g2, rfl, rfl⟩
                 have hx2 := hx2.trans ((sq.2.1.2.2.2.2 hK4).trans hw6)
                 subst hx2
                 have t2 := g2.x (zKb_n (by decide)) ht
                 have d2 := hd.g g2
                 refine e_istore_n 68 dX8_land_67 rfl (by decide) (zst1_2 rfl) ?_
                 refine e_aload_n 69 dX8_land_68 rfl rfl ?_
                 refine c_Vqi 72 (ci := 8) dX8_land_69 (k_X8_isWell_y G hr s2.1) lm_X8_102 zi_yX8_isWell zs_yX8_isWell rfl rfl (by decide) rfl rfl rfl (Nat.le_of_ble_eq_true rfl) (Nat.le_of_ble_eq_true rfl) (Nat.le_of_ble_eq_true rfl) (by exact Nat.le_refl _) (by exact Nat.le_refl _) ?_
                 refine e_if_eq 80 75 dX8_land_72 (by decide) rfl (fun h72 => ?_) (fun h72 => ?_)
                 · exact absurd h72 (by decide)
                 · refine e_aload_n 76 dX8_land_75 rfl rfl ?_
                   refine e_iload_n 77 dX8_land_76 rfl rfl ?_
                   refine c_Vv 80 (ci := 8) dX8_land_77 (k_X8_readsItem G hr htw t2 s2 d2 hw hk6 hm) lm_X8_134 zi_yX8_readsItem zs_yX8_readsItem rfl rfl (by decide) rfl rfl rfl (Nat.le_of_ble_eq_true rfl) (Nat.le_of_ble_eq_true rfl) (Nat.le_of_ble_eq_true rfl) (by exact Nat.le_refl _) (by exact Nat.le_refl _) ?_
                   rintro u3 _ _ ⟨⟨sd, f3⟩, rfl, rfl⟩
                   exact l_X8_land80 G d Q hr htw sd (f3.y t2) (fun p u' e f => hE p u' (zLandF_e1 hK0 (eI.trans e)) (f.t (f3.t g2.fr))) (fun y u4 w2 e s4 d4 f4 => ih (n + 1) y.1 y.2 u4 w2 (by omega) (by have := (zItem_W hw sq.2.2 (eI.trans e)).2.1; omega) s4 d4 (zItem_W hw sq.2.2 (eI.trans e)).1 ((f4.t (f3.t g2.fr)).y ht) (fun p u' e9 f9 => hE p u' ((zLandF_o1 hK0 (eI.trans e)).trans e9) (f9.t (f4.t (f3.t g2.fr)))) (fun z u' w9 e9 d9 f9 => hO z u' w9 ((zLandF_o1 hK0 (eI.trans e)).trans e9) d9 (f9.t (f4.t (f3.t g2.fr))))))
              | (refine c_Vi 67 (ci := 8) dX8_land_64 (k_X8_takes_0 G hr htw sq ht) lm_X8_109 zi_yX8_takes zs_yX8_takes rfl rfl (by decide) rfl rfl rfl (Nat.le_of_ble_eq_true rfl) (Nat.le_of_ble_eq_true rfl) (Nat.le_of_ble_eq_true rfl) (by exact Nat.le_refl _) (by exact Nat.le_refl _) ?_
                 rintro x2 u2 _ _ ⟨rfl, s2, g2, rfl, rfl⟩
                 refine e_istore_n 68 dX8_land_67 rfl (by decide) (zst1_2 rfl) ?_
                 refine e_aload_n 69 dX8_land_68 rfl rfl ?_
                 refine c_Vqi 72 (ci := 8) dX8_land_69 (k_X8_isWell_n G hr s2.1 (by have := htw.1; have := s2.2; omega)) lm_X8_102 zi_yX8_isWell zs_yX8_isWell rfl rfl (by decide) rfl rfl rfl (Nat.le_of_ble_eq_true rfl) (Nat.le_of_ble_eq_true rfl) (Nat.le_of_ble_eq_true rfl) (by exact Nat.le_refl _) (by exact Nat.le_refl _) ?_
                 refine e_if_eq 80 75 dX8_land_72 (by decide) rfl (fun h72 => ?_) (fun h72 => ?_)
                 · exact l_X8_landE80 G d Q hr htw s2 (fun u' g => hE _ u' (zLandF_e1 hK0 eI) (g.fr.t g2.fr))
                 · exact absurd rfl h72)
          · have hm : zMayP s k6 := (hx1.resolve_right (fun z => h56 z.1)).2
            have eI := zItem_y sq.2.2 hk6 hsp hm
            refine e_iconst 60 hic_1 dX8_land_59 rfl ?_
            refine e_goto 64 dX8_land_60 (by decide) ?_
            first
              | (refine c_Vi 67 (ci := 8) dX8_land_64 (k_X8_takes_1 G hr htw sq ht) lm_X8_109 zi_yX8_takes zs_yX8_takes rfl rfl (by decide) rfl rfl rfl (Nat.le_of_ble_eq_true rfl) (Nat.le_of_ble_eq_true rfl) (Nat.le_of_ble_eq_true rfl) (by exact Nat.le_refl _) (by exact Nat.le_refl _) ?_
                 rintro x2 u2 _ _ ⟨hx2, s2, g2, rfl, rfl⟩
                 have hx2 := hx2.trans ((sq.2.1.2.2.2.2 hK4).trans hw6)
                 subst hx2
                 have t2 := g2.x (zKb_n (by decide)) ht
                 have d2 := hd.g g2
                 refine e_istore_n 68 dX8_land_67 rfl (by decide) (zst1_2 rfl) ?_
                 refine e_aload_n 69 dX8_land_68 rfl rfl ?_
                 refine c_Vqi 72 (ci := 8) dX8_land_69 (k_X8_isWell_y G hr s2.1) lm_X8_102 zi_yX8_isWell zs_yX8_isWell rfl rfl (by decide) rfl rfl rfl (Nat.le_of_ble_eq_true rfl) (Nat.le_of_ble_eq_true rfl) (Nat.le_of_ble_eq_true rfl) (by exact Nat.le_refl _) (by exact Nat.le_refl _) ?_
                 refine e_if_eq 80 75 dX8_land_72 (by decide) rfl (fun h72 => ?_) (fun h72 => ?_)
                 · exact absurd h72 (by decide)
                 · refine e_aload_n 76 dX8_land_75 rfl rfl ?_
                   refine e_iload_n 77 dX8_land_76 rfl rfl ?_
                   refine c_Vv 80 (ci := 8) dX8_land_77 (k_X8_readsItem G hr htw t2 s2 d2 hw hk6 hm) lm_X8_134 zi_yX8_readsItem zs_yX8_readsItem rfl rfl (by decide) rfl rfl rfl (Nat.le_of_ble_eq_true rfl) (Nat.le_of_ble_eq_true rfl) (Nat.le_of_ble_eq_true rfl) (by exact Nat.le_refl _) (by exact Nat.le_refl _) ?_
                   rintro u3 _ _ ⟨⟨sd, f3⟩, rfl, rfl⟩
                   exact l_X8_land80 G d Q hr htw sd (f3.y t2) (fun p u' e f => hE p u' (zLandF_e1 hK0 (eI.trans e)) (f.t (f3.t g2.fr))) (fun y u4 w2 e s4 d4 f4 => ih (n + 1) y.1 y.2 u4 w2 (by omega) (by have := (zItem_W hw sq.2.2 (eI.trans e)).2.1; omega) s4 d4 (zItem_W hw sq.2.2 (eI.trans e)).1 ((f4.t (f3.t g2.fr)).y ht) (fun p u' e9 f9 => hE p u' ((zLandF_o1 hK0 (eI.trans e)).trans e9) (f9.t (f4.t (f3.t g2.fr)))) (fun z u' w9 e9 d9 f9 => hO z u' w9 ((zLandF_o1 hK0 (eI.trans e)).trans e9) d9 (f9.t (f4.t (f3.t g2.fr))))))
              | (refine c_Vi 67 (ci := 8) dX8_land_64 (k_X8_takes_0 G hr htw sq ht) lm_X8_109 zi_yX8_takes zs_yX8_takes rfl rfl (by decide) rfl rfl rfl (Nat.le_of_ble_eq_true rfl) (Nat.le_of_ble_eq_true rfl) (Nat.le_of_ble_eq_true rfl) (by exact Nat.le_refl _) (by exact Nat.le_refl _) ?_
                 rintro x2 u2 _ _ ⟨rfl, s2, g2, rfl, rfl⟩
                 refine e_istore_n 68 dX8_land_67 rfl (by decide) (zst1_2 rfl) ?_
                 refine e_aload_n 69 dX8_land_68 rfl rfl ?_
                 refine c_Vqi 72 (ci := 8) dX8_land_69 (k_X8_isWell_n G hr s2.1 (by have := htw.1; have := s2.2; omega)) lm_X8_102 zi_yX8_isWell zs_yX8_isWell rfl rfl (by decide) rfl rfl rfl (Nat.le_of_ble_eq_true rfl) (Nat.le_of_ble_eq_true rfl) (Nat.le_of_ble_eq_true rfl) (by exact Nat.le_refl _) (by exact Nat.le_refl _) ?_
                 refine e_if_eq 80 75 dX8_land_72 (by decide) rfl (fun h72 => ?_) (fun h72 => ?_)
                 · exact l_X8_landE80 G d Q hr htw s2 (fun u' g => hE _ u' (zLandF_e1 hK0 eI) (g.fr.t g2.fr))
                 · exact absurd rfl h72)
theorem zAdY {mi u' u4 : zFi} {ml : zFl} {Λ Λ' : zLd} {late : Nat} {tr : Int64} {t : zTx} {m : zMo} {im : Nat → Nat × zMo} {l : zLt} {r : zWr} (h : zY mi ml Λ late tr t m im l r) (f : zFrR u' mi) (a : zAdp u' u4 Λ') : zY (zp u4 224 7 (nI 0)) ml Λ' late tr (0, t.2) (zAnew Λ' m) (fun i => (0, (im i).2)) (0, l.2) (0, r.2) ∧ ∀ q, q < 224 → zp u4 224 7 (nI 0) q = mi q := by
  obtain ⟨⟨a1, a2⟩, a3, ⟨a4, a5, a6, a7⟩, a8, a9⟩ := a
  have e : ∀ q, q ≠ 224 → zp u4 224 7 (nI 0) q = u4 q := fun q hq => zp_r _ _ _ hq
  refine ⟨⟨?_, ?_, h.2.2.1, ⟨zp_s _ _ _ _, fun k hk => absurd hk (Nat.not_lt_zero _)⟩, ?_, fun i hi => ⟨?_, fun z => absurd z Nat.zero_ne_one⟩, ⟨(zp_k _ _ (by decide)).trans a6, fun z => absurd z Nat.zero_ne_one⟩, ⟨(zp_k _ _ (by decide)).trans a7, fun k hk => absurd hk (Nat.not_lt_zero _)⟩⟩, fun q hq => ?_⟩
  · unfold zYd
    rw [zp_k _ _ (by decide), zp_k _ _ (by decide), e 230 (by decide), e 231 (by decide), e 232 (by decide)]
    exact a1
  · rw [e 230 (by decide), a2, f.2.2.1 4 (by decide)]; exact h.2.1
  · rw [e 225 (by decide)]
    have h1 : u' 225 1 = m.2.1 := by rw [f.1 225 (by decide) (by decide) (by decide) (by decide)]; exact h.2.2.2.2.1.2.1
    rw [h1] at a3
    exact a3
  · rw [e 228 (by decide)]
    show u4 228 i = nI 0
    have i2 : i = 0 ∨ i = 1 := by omega
    rcases i2 with q | q <;> rw [q]
    · exact a4
    · exact a5
  · rw [e q (by omega), a8 q (by omega) (by omega) (by omega) (by omega) (by omega) (by omega)]
    exact f.1 q (by omega) (by omega) (by omega) (by omega)
theorem zLand_e {u mi : zFi} {ml : zFl} {mr : zFr} {Λ : zLd} {late : Nat} {tr : Int64} {t : zTx} {m : zMo} {im : Nat → Nat × zMo} {l : zLt} {r : zWr} {p : Nat} (ep : zLandP t = .error p) (hY : zY u ml Λ late tr t m im l r) (hfr : ∀ q, q < 224 → u q = mi q) : (zPi fun x u b c => x = sLand t ∧ zY u b (sLandD t Λ) late tr (sLandT t) (sLandM t m) (sLandI t im) (sLandL t l) (sLandW t r) ∧ (∀ q, q < 224 → u q = mi q) ∧ b = ml ∧ c = mr) (some (.int (-10 - nI p))) u ml mr := by
  have eA : sLand t = -10 - nI p := by unfold sLand; rw [ep]
  have eD : sLandD t Λ = Λ := by unfold sLandD; rw [ep]
  have eT : sLandT t = t := by unfold sLandT; rw [ep]
  have eM : sLandM t m = m := by unfold sLandM; rw [ep]
  have eI : sLandI t im = im := by unfold sLandI; rw [ep]
  have eL : sLandL t l = l := by unfold sLandL; rw [ep]
  have eW : sLandW t r = r := by unfold sLandW; rw [ep]
  rw [eA, eD, eT, eM, eI, eL, eW]
  exact ⟨_, rfl, rfl, hY, hfr, rfl, rfl⟩
theorem zLand_o {u mi : zFi} {ml : zFl} {mr : zFr} {Λ : zLd} {late : Nat} {tr : Int64} {t : zTx} {m : zMo} {im : Nat → Nat × zMo} {l : zLt} {r : zWr} {y : Nat × zRd} (ey : zLandP t = .ok y) (hY : zY u ml y.2.1 late tr (0, t.2) (zAnew y.2.1 m) (fun i => (0, (im i).2)) (0, l.2) (0, r.2)) (hfr : ∀ q, q < 224 → u q = mi q) : (zPi fun x u b c => x = sLand t ∧ zY u b (sLandD t Λ) late tr (sLandT t) (sLandM t m) (sLandI t im) (sLandL t l) (sLandW t r) ∧ (∀ q, q < 224 → u q = mi q) ∧ b = ml ∧ c = mr) (some (.int (nI y.1))) u ml mr := by
  have eA : sLand t = nI y.1 := by unfold sLand; rw [ey]
  have eD : sLandD t Λ = y.2.1 := by unfold sLandD; rw [ey]
  have eT : sLandT t = (0, t.2) := by unfold sLandT; rw [ey]
  have eM : sLandM t m = zAnew y.2.1 m := by unfold sLandM; rw [ey]
  have eI : sLandI t im = fun i => (0, (im i).2) := by unfold sLandI; rw [ey]
  have eL : sLandL t l = (0, l.2) := by unfold sLandL; rw [ey]
  have eW : sLandW t r = (0, r.2) := by unfold sLandW; rw [ey]
  rw [eA, eD, eT, eM, eI, eL, eW]
  exact ⟨_, rfl, rfl, hY, hfr, rfl, rfl⟩
set_option maxHeartbeats 4000000 in
set_option maxRecDepth 100000 in
theorem k_X8_land (G : zG) {D E : Nat} {Λ : zLd} {late : Nat} {tr : Int64} {t : zTx} {m : zMo} {im : Nat → Nat × zMo} {l : zLt} {r : zWr} {mi : zFi} {ml : zFl} {mr : zFr} (hr : zRf mr D E) (hY : zY mi ml Λ late tr t m im l r) (hF : zWf Λ late t m im l r) : zMet G 7 yX8_land cX8_land 3 (some .int) [.ref 224] 238 mi ml mr 238 (zPi fun x u b c => x = sLand t ∧ zY u b (sLandD t Λ) late tr (sLandT t) (sLandM t m) (sLandI t im) (sLandL t l) (sLandW t r) ∧ (∀ q, q < 224 → u q = mi q) ∧ b = ml ∧ c = mr) := by
  obtain ⟨hW, hla30, htw, hmw, himw, hlw, hrw⟩ := id hF
  have hP3 := hW.1.1
  have hW5 := hW.1.2.1
  have hy99 := hmw.1
  refine z_intro ([.ref 224, zx, zx]) (by decide) rfl (Nat.le_of_ble_eq_true rfl) ?_
  refine e_aload_n 1 dX8_land_0 rfl rfl ?_
  refine e_iconst 2 hic_0 dX8_land_1 rfl ?_
  refine e_puti 5 dX8_land_2 lf_X8_56 rfl rfl rfl rfl rfl (by decide) ?_
  obtain ⟨m1, em, hfr⟩ : ∃ m1, m1 = zp mi 224 0 (nI 0) ∧ ∀ q, q ≠ 224 → m1 q = mi q := ⟨_, rfl, fun q hq => zp_r _ _ _ hq⟩
  have hY := hY.th (k := 0) (v := nI 0) (Or.inl rfl)
  rw [← em] at hY ⊢
  obtain ⟨hd, hlate, htr, ht, hs, him, hl, hw⟩ := id hY
  refine e_aload_n 6 dX8_land_5 rfl rfl ?_
  refine e_iconst 7 hic_m1 dX8_land_6 rfl ?_
  refine e_puti 10 dX8_land_7 lf_X8_99 rfl rfl rfl rfl rfl (by decide) ?_
  refine e_aload_n 11 dX8_land_10 rfl rfl ?_
  refine e_iconst 12 hic_0 dX8_land_11 rfl ?_
  refine e_puti 15 dX8_land_12 lf_X8_79 rfl rfl rfl rfl rfl (by decide) ?_
  obtain ⟨w1, ew⟩ : ∃ w1, w1 = (zp (zp m1 224 12 (-1)) 224 8 (nI 0)) := ⟨_, rfl⟩
  have g1 : zGq zKb w1 m1 := by rw [ew]; exact ((zGq.r m1).p (zKb_y (by decide))).p (zKb_y (by decide))
  have e12 : w1 224 12 = -1 := by rw [ew, zp_k _ _ (by decide), zp_s]
  have e8 : w1 224 8 = nI 0 := by rw [ew, zp_s]
  rw [← ew]
  refine e_iconst 16 hic_0 dX8_land_15 rfl ?_
  refine e_istore_n 17 dX8_land_16 rfl (by decide) (zst1_1 rfl) ?_
  refine e_aload_n 18 dX8_land_17 rfl rfl ?_
  refine c_Vv 21 (ci := 8) dX8_land_18 (k_X8_drafts G hr) lm_X8_50 zi_yX8_drafts zs_yX8_drafts rfl rfl (by decide) rfl rfl rfl (Nat.le_of_ble_eq_true rfl) (Nat.le_of_ble_eq_true rfl) (Nat.le_of_ble_eq_true rfl) (by exact Nat.le_refl _) (by exact Nat.le_refl _) ?_
  rintro w2 _ _ ⟨⟨d2, f2, k2⟩, rfl, rfl⟩
  have t2 := f2.y (g1.x (zKb_n (by decide)) ht)
  refine e_aload_n 22 dX8_land_21 rfl rfl ?_
  refine c_Vv 25 (ci := 8) dX8_land_22 (k_X8_advances G hr htw t2 ((k2 8 (by decide) (by decide)).trans e8) (Nat.zero_le _)) lm_X8_106 zi_yX8_advances zs_yX8_advances rfl rfl (by decide) rfl rfl rfl (Nat.le_of_ble_eq_true rfl) (Nat.le_of_ble_eq_true rfl) (Nat.le_of_ble_eq_true rfl) (by exact Nat.le_refl _) (by exact Nat.le_refl _) ?_
  rintro w3 _ _ ⟨y3, g3, rfl, rfl⟩
  have s3 : zSq w3 t (.ok 0) := ⟨(g3.2 12 (zKa_n (by decide))).trans ((k2 12 (by decide) (by decide)).trans e12), y3, Nat.zero_le _⟩
  have f3 : zFrR w3 m1 := g3.ab.fr.t (f2.t g1.fr)
  refine l_X8_land G 0 _ hr htw 300 0 zRd0 0 w3 _ rfl (Nat.le_refl 0) s3 (d2.g g3.ab) zRd0_W (f3.y ht) (fun p u' ep f9 => zLand_e ep ((f9.t f3).Y hW5 hY) (fun q hq => ((f9.t f3).1 q (by omega) (by omega) (by omega) (by omega)).trans (hfr q (by omega)))) (fun y u' v9 ey d9 f9 => ?_)
  refine e_aload_n 120 dX8_land_119 rfl rfl ?_
  refine c_Vv 123 (ci := 8) dX8_land_120 (k_X8_adopts G hr d9 (zLandP_W ey).1.1) lm_X8_53 zi_yX8_adopts zs_yX8_adopts rfl rfl (by decide) rfl rfl rfl (Nat.le_of_ble_eq_true rfl) (Nat.le_of_ble_eq_true rfl) (Nat.le_of_ble_eq_true rfl) (by exact Nat.le_refl _) (by exact Nat.le_refl _) ?_
  rintro u4 _ _ ⟨a4, rfl, rfl⟩
  have hA := zAdY hY (f9.t f3) a4
  refine e_aload_n 124 dX8_land_123 rfl rfl ?_
  refine e_iconst 125 hic_0 dX8_land_124 rfl ?_
  refine e_puti 128 dX8_land_125 lf_X8_64 rfl rfl rfl rfl rfl (by decide) ?_
  refine e_iload_n 129 dX8_land_128 rfl rfl ?_
  refine e_ireturn .int dX8_land_129 rfl rfl ?_
  exact zLand_o ey hA.1 (fun q hq => (hA.2 q hq).trans (hfr q (by omega)))

