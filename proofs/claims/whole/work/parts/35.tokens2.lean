theorem zTk_oth {u mi : zFi} {t : zTx} {a b k9 : Nat} (ea : a = zTkA t b) (h54 : a < t.1) (h77 : ¬ zDig (t.2 a) = true) (h99 : ¬ zLtr (t.2 a) = true) (hk : (if t.2 a = 59 then 2 else 1) = k9) (hf3 : zFq zJ25 u mi) (g3 : u 1 3 = nI a) : zTkR (zp (zp u 1 2 (nI k9)) 1 4 (nI (a + 1))) t b ∧ zFq zJ25 (zp (zp u 1 2 (nI k9)) 1 4 (nI (a + 1))) mi := by
  have eE : zTkE t b = a + 1 := by unfold zTkE; rw [← ea, if_neg (by omega), if_neg h77, if_neg h99]
  have eK : zTkK t b = k9 := by unfold zTkK; rw [← ea, if_neg (by omega), if_neg h77, if_neg h99]; exact hk
  refine ⟨⟨by rw [eK]; exact (zp_k _ _ (by decide)).trans (zp_s _ _ _ _), by rw [← ea]; exact ((zp_k _ _ (by decide)).trans (zp_k _ _ (by decide))).trans g3, by rw [eE]; exact zp_s _ _ _ _, fun z => ?_⟩, (hf3.p (by unfold zJ25; omega)).p (by unfold zJ25; omega)⟩
  rw [eK, ← hk] at z
  split at z <;> cases z
set_option maxHeartbeats 4000000 in
set_option maxRecDepth 100000 in
theorem l_X4_spaces (G : zG) (d : Nat) (Q : zQ) {D E : Nat} {t : zTx} {ml : zFl} {mr : zFr} (hr : zRf mr D E) (htw : zTxW t) : ∀ (k i : Nat) (s : zFi), i + k = t.1 → zXt s t → s 1 4 = nI i → (∀ u, u 1 4 = nI (zRunF zSpc t.2 k i) → zFq zJ4 u s → zE G (zRm (d + 1) 238 238) (zQm G 238 238 Q) yX4_next.cls yX4_next.name cX4_next 1 none 238 38 [.ref 1] [] 238 u ml mr) → zE G (zRm (d + 1) 238 238) (zQm G 238 238 Q) yX4_next.cls yX4_next.name cX4_next 1 none 238 0 [.ref 1] [] 238 s ml mr := by
  intro k
  induction k with
  | zero =>
    intro i s h hx hs hQ
    have ht3 := htw.1
    refine e_aload_n 1 dX4_next_0 rfl rfl ?_
    refine e_geti 4 dX4_next_1 lf_X4_33 rfl rfl rfl (by decide) hs ?_
    refine e_aload_n 5 dX4_next_4 rfl rfl ?_
    refine e_geti 8 dX4_next_5 lf_X4_15 rfl rfl rfl (by decide) hx.1 ?_
    refine e_icmp_geN 38 11 dX4_next_8 (by decide) rfl (by omega) (by omega) (fun h8 => ?_) (fun h8 => ?_)
    · exact hQ s hs (zFq.r s)
    · exact absurd h8 (by omega)
  | succ k ih =>
    intro i s h hx hs hQ
    have ht3 := htw.1
    refine e_aload_n 1 dX4_next_0 rfl rfl ?_
    refine e_geti 4 dX4_next_1 lf_X4_33 rfl rfl rfl (by decide) hs ?_
    refine e_aload_n 5 dX4_next_4 rfl rfl ?_
    refine e_geti 8 dX4_next_5 lf_X4_15 rfl rfl rfl (by decide) hx.1 ?_
    refine e_icmp_geN 38 11 dX4_next_8 (by decide) rfl (by omega) (by omega) (fun h8 => ?_) (fun h8 => ?_)
    · exact absurd h8 (by omega)
    · refine e_aload_n 12 dX4_next_11 rfl rfl ?_
      refine e_getr 15 dX4_next_12 lf_X4_9 rfl rfl rfl (by decide) hr.text ?_
      refine e_aload_n 16 dX4_next_15 rfl rfl ?_
      refine e_geti 19 dX4_next_16 lf_X4_33 rfl rfl rfl (by decide) hs ?_
      refine e_cald 20 dX4_next_19 rfl rfl (by decide) rfl (by show _ < 300; omega) (hx.2 i h8) ?_
      refine e_bipush 22 hbi_32 dX4_next_20 rfl ?_
      refine e_icmp_neN 38 25 dX4_next_22 (by decide) rfl (by have := htw.2 i h8; omega) (by omega) (fun h22 => ?_) (fun h22 => ?_)
      · rw [show zRunF zSpc t.2 (k + 1) i = if zSpc (t.2 i) = true then zRunF zSpc t.2 k (i + 1) else i from rfl, if_neg (fun z => absurd (zSpc_i.mp z) (by omega))] at hQ
        exact hQ s hs (zFq.r s)
      · refine e_aload_n 26 dX4_next_25 rfl rfl ?_
        refine e_dup 27 dX4_next_26 rfl rfl ?_
        refine e_geti 30 dX4_next_27 lf_X4_33 rfl rfl rfl (by decide) hs ?_
        refine e_iconst 31 hic_1 dX4_next_30 rfl ?_
        first | refine e_iaddN 32 dX4_next_31 rfl ?_ | refine e_iadd 32 dX4_next_31 rfl ?_
        refine e_puti 35 dX4_next_32 lf_X4_33 rfl rfl rfl rfl rfl (by decide) ?_
        refine e_goto 0 dX4_next_35 (by decide) ?_
        rw [show zRunF zSpc t.2 (k + 1) i = if zSpc (t.2 i) = true then zRunF zSpc t.2 k (i + 1) else i from rfl, if_pos (zSpc_i.mpr (by omega))] at hQ
        exact ih (i + 1) _ (by omega) (((zFq.r s).p (J := zJ4) rfl).x (zJ4_n (by decide)) hx) (zp_s _ _ _ _) (fun u g1 g2 => hQ u g1 (g2.t ((zFq.r s).p (J := zJ4) rfl)))
set_option maxHeartbeats 4000000 in
set_option maxRecDepth 100000 in
theorem k_X4_next (G : zG) {D E : Nat} {t : zTx} {ml : zFl} {mr : zFr} (hr : zRf mr D E) (htw : zTxW t) {mi : zFi} {b : Nat} (hx : zXt mi t) (h4 : mi 1 4 = nI b) (hb : b ≤ t.1) : zMet G 2 yX4_next cX4_next 1 none [.ref 1] 238 mi ml mr 238 (zPv fun u b' c => zTkR u t b ∧ zFq zJ25 u mi ∧ b' = ml ∧ c = mr) := by
  refine z_intro ([.ref 1]) (by decide) rfl (Nat.le_of_ble_eq_true rfl) ?_
  have hx0 := hx
  have ht3 := htw.1
  have hA := (zTk_b hb).2.1
  refine l_X4_spaces G _ _ hr htw (t.1 - b) b mi (by omega) hx h4 (fun u g1 g2 => ?_)
  have g1 : u 1 4 = nI (zTkA t b) := g1
  obtain ⟨a, ea⟩ : ∃ a, a = zTkA t b := ⟨_, rfl⟩
  rw [← ea] at g1 hA
  refine e_aload_n 39 dX4_next_38 rfl rfl ?_
  refine e_aload_n 40 dX4_next_39 rfl rfl ?_
  refine e_geti 43 dX4_next_40 lf_X4_33 rfl rfl rfl (by decide) g1 ?_
  refine e_puti 46 dX4_next_43 lf_X4_46 rfl rfl rfl rfl rfl (by decide) ?_
  have hf3 : zFq zJ25 (zp u 1 3 (nI a)) mi := ((g2.w (K := zJ25) (fun j h => by unfold zJ4 at h; unfold zJ25; omega)).p (J := zJ25) (by unfold zJ25; omega))
  have hx3 : zXt (zp u 1 3 (nI a)) t := hf3.x (zJ25_n (by decide)) hx0
  have hx := hx3
  have g4 : zp u 1 3 (nI a) 1 4 = nI a := (zp_k _ _ (by decide)).trans g1
  have g3 : zp u 1 3 (nI a) 1 3 = nI a := zp_s _ _ _ _
  refine e_aload_n 47 dX4_next_46 rfl rfl ?_
  refine e_geti 50 dX4_next_47 lf_X4_46 rfl rfl rfl (by decide) g3 ?_
  refine e_aload_n 51 dX4_next_50 rfl rfl ?_
  refine e_geti 54 dX4_next_51 lf_X4_15 rfl rfl rfl (by decide) hx.1 ?_
  refine e_icmp_ltN 65 57 dX4_next_54 (by decide) rfl (by omega) (by omega) (fun h54 => ?_) (fun h54 => ?_)
  · refine e_aload_n 66 dX4_next_65 rfl rfl ?_
    refine e_getr 69 dX4_next_66 lf_X4_9 rfl rfl rfl (by decide) hr.text ?_
    refine e_aload_n 70 dX4_next_69 rfl rfl ?_
    refine e_geti 73 dX4_next_70 lf_X4_46 rfl rfl (by first | rfl | assumption) (by first | decide | omega) rfl ?_
    refine e_cald (v := nI (t.2 a)) 74 dX4_next_73 rfl rfl (by decide) rfl (by show _ < 300; omega) (hx3.2 a h54) ?_
    refine c_Sqi 77 dX4_next_74 (k_X4_isDigit G (htw.2 a h54)) lm_X4_120 zt_yX4_isDigit rfl rfl rfl (Nat.le_of_ble_eq_true rfl) (Nat.le_of_ble_eq_true rfl) (Nat.le_of_ble_eq_true rfl) (by exact Nat.le_refl _) (by exact Nat.le_refl _) ?_
    refine e_if_eq 87 80 dX4_next_77 (by decide) rfl (fun h77 => ?_) (fun h77 => ?_)
    · have h77 := zB_0 h77
      refine e_aload_n 88 dX4_next_87 rfl rfl ?_
      refine e_getr 91 dX4_next_88 lf_X4_9 rfl rfl rfl (by decide) hr.text ?_
      refine e_aload_n 92 dX4_next_91 rfl rfl ?_
      refine e_geti 95 dX4_next_92 lf_X4_46 rfl rfl (by first | rfl | assumption) (by first | decide | omega) rfl ?_
      refine e_cald (v := nI (t.2 a)) 96 dX4_next_95 rfl rfl (by decide) rfl (by show _ < 300; omega) (hx3.2 a h54) ?_
      refine c_Sqi 99 dX4_next_96 (k_X4_isLetter G (htw.2 a h54)) lm_X4_127 zt_yX4_isLetter rfl rfl rfl (Nat.le_of_ble_eq_true rfl) (Nat.le_of_ble_eq_true rfl) (Nat.le_of_ble_eq_true rfl) (by exact Nat.le_refl _) (by exact Nat.le_refl _) ?_
      refine e_if_eq 109 102 dX4_next_99 (by decide) rfl (fun h99 => ?_) (fun h99 => ?_)
      · have h99 := zB_0 h99
        refine e_aload_n 110 dX4_next_109 rfl rfl ?_
        refine e_aload_n 111 dX4_next_110 rfl rfl ?_
        refine e_getr 114 dX4_next_111 lf_X4_9 rfl rfl rfl (by decide) hr.text ?_
        refine e_aload_n 115 dX4_next_114 rfl rfl ?_
        refine e_geti 118 dX4_next_115 lf_X4_46 rfl rfl (by first | rfl | assumption) (by first | decide | omega) rfl ?_
        refine e_cald (v := nI (t.2 a)) 119 dX4_next_118 rfl rfl (by decide) rfl (by show _ < 300; omega) (hx3.2 a h54) ?_
        refine e_bipush 121 hbi_59 dX4_next_119 rfl ?_
        refine e_icmp_neN 128 124 dX4_next_121 (by decide) rfl (by have := htw.2 a h54; omega) (by omega) (fun h121 => ?_) (fun h121 => ?_)
        · refine e_iconst 129 hic_1 dX4_next_128 rfl ?_
          refine e_puti 132 dX4_next_129 lf_X4_39 rfl rfl rfl rfl rfl (by decide) ?_
          refine e_aload_n 133 dX4_next_132 rfl rfl ?_
          refine e_dup 134 dX4_next_133 rfl rfl ?_
          refine e_geti (v := nI a) 137 dX4_next_134 lf_X4_33 rfl rfl rfl (by decide) ((zp_k _ _ (by decide)).trans g4) ?_
          refine e_iconst 138 hic_1 dX4_next_137 rfl ?_
          first | refine e_iaddN 139 dX4_next_138 rfl ?_ | refine e_iadd 139 dX4_next_138 rfl ?_
          refine e_puti 142 dX4_next_139 lf_X4_33 rfl rfl rfl rfl rfl (by decide) ?_
          first | have fin := zTk_oth ea h54 h77 h99 (if_pos h121) hf3 g3 | have fin := zTk_oth ea h54 h77 h99 (if_neg h121) hf3 g3
          refine e_vreturn dX4_next_142 rfl ?_
          exact ⟨rfl, fin.1, fin.2, rfl, rfl⟩
        · refine e_iconst 125 hic_2 dX4_next_124 rfl ?_
          refine e_goto 129 dX4_next_125 (by decide) ?_
          refine e_puti 132 dX4_next_129 lf_X4_39 rfl rfl rfl rfl rfl (by decide) ?_
          refine e_aload_n 133 dX4_next_132 rfl rfl ?_
          refine e_dup 134 dX4_next_133 rfl rfl ?_
          refine e_geti (v := nI a) 137 dX4_next_134 lf_X4_33 rfl rfl rfl (by decide) ((zp_k _ _ (by decide)).trans g4) ?_
          refine e_iconst 138 hic_1 dX4_next_137 rfl ?_
          first | refine e_iaddN 139 dX4_next_138 rfl ?_ | refine e_iadd 139 dX4_next_138 rfl ?_
          refine e_puti 142 dX4_next_139 lf_X4_33 rfl rfl rfl rfl rfl (by decide) ?_
          first | have fin := zTk_oth ea h54 h77 h99 (if_pos h121) hf3 g3 | have fin := zTk_oth ea h54 h77 h99 (if_neg h121) hf3 g3
          refine e_vreturn dX4_next_142 rfl ?_
          exact ⟨rfl, fin.1, fin.2, rfl, rfl⟩
      · have h99 := zB_1 h99
        refine e_aload_n 103 dX4_next_102 rfl rfl ?_
        refine c_Vv 106 (ci := 4) dX4_next_103 (k_X4_takeLetters G hr htw hx3 g4 (Nat.le_of_lt h54)) lm_X4_130 zi_yX4_takeLetters zs_yX4_takeLetters rfl rfl (by decide) rfl rfl rfl (Nat.le_of_ble_eq_true rfl) (Nat.le_of_ble_eq_true rfl) (Nat.le_of_ble_eq_true rfl) (by exact Nat.le_refl _) (by exact Nat.le_refl _) ?_
        rintro w _ _ ⟨w2, w4, wf, rfl, rfl⟩
        have eK : zTkK t b = 4 := by unfold zTkK; rw [← ea, if_neg (by omega), if_neg h77, if_pos h99]
        have eE : zTkE t b = zRun zLtr t a := by unfold zTkE; rw [← ea, if_neg (by omega), if_neg h77, if_pos h99]
        have fin : zTkR w t b ∧ zFq zJ25 w mi := ⟨⟨by rw [eK]; exact w2, by rw [← ea]; exact (wf.2 3 (zJ245_n (by omega))).trans g3, by rw [eE]; exact w4, fun z => absurd (eK.symm.trans z) (by decide)⟩, (wf.w (fun j h => by unfold zJ245 at h; unfold zJ25; omega)).t hf3⟩
        refine e_goto 142 dX4_next_106 (by decide) ?_
        refine e_vreturn dX4_next_142 rfl ?_
        exact ⟨rfl, fin.1, fin.2, rfl, rfl⟩
    · have h77 := zB_1 h77
      refine e_aload_n 81 dX4_next_80 rfl rfl ?_
      refine c_Vv 84 (ci := 4) dX4_next_81 (k_X4_takeNumber G hr htw hx3 g3 g4 h54) lm_X4_124 zi_yX4_takeNumber zs_yX4_takeNumber rfl rfl (by decide) rfl rfl rfl (Nat.le_of_ble_eq_true rfl) (Nat.le_of_ble_eq_true rfl) (Nat.le_of_ble_eq_true rfl) (by exact Nat.le_refl _) (by exact Nat.le_refl _) ?_
      rintro w _ _ ⟨w2, w4, w5, wf, rfl, rfl⟩
      have eK : zTkK t b = zNumK t a (zRun zDig t a) := by unfold zTkK; rw [← ea, if_neg (by omega), if_pos h77]
      have eE : zTkE t b = zRun zDig t a := by unfold zTkE; rw [← ea, if_neg (by omega), if_pos h77]
      have fin : zTkR w t b ∧ zFq zJ25 w mi := ⟨⟨by rw [eK]; exact w2, by rw [← ea]; exact (wf.2 3 (zJ245_n (by omega))).trans g3, by rw [eE]; exact w4, fun _ => by unfold zTkV; rw [← ea]; exact w5⟩, (wf.w (fun j h => by unfold zJ245 at h; unfold zJ25; omega)).t hf3⟩
      refine e_goto 142 dX4_next_84 (by decide) ?_
      refine e_vreturn dX4_next_142 rfl ?_
      exact ⟨rfl, fin.1, fin.2, rfl, rfl⟩
  · refine e_aload_n 58 dX4_next_57 rfl rfl ?_
    refine e_iconst 59 hic_0 dX4_next_58 rfl ?_
    refine e_puti 62 dX4_next_59 lf_X4_39 rfl rfl rfl rfl rfl (by decide) ?_
    have eK : zTkK t b = 0 := by unfold zTkK; rw [← ea, if_pos (by omega)]
    have eE : zTkE t b = a := by unfold zTkE; rw [← ea, if_pos (by omega)]
    have fin : ∃ w, w = zp (zp u 1 3 (nI a)) 1 2 (nI 0) ∧ zTkR w t b ∧ zFq zJ25 w mi := ⟨_, rfl, ⟨by rw [eK]; exact zp_s _ _ _ _, by rw [← ea]; exact (zp_k _ _ (by decide)).trans g3, by rw [eE]; exact (zp_k _ _ (by decide)).trans g4, fun z => absurd (eK.symm.trans z) (by decide)⟩, hf3.p (by unfold zJ25; omega)⟩
    obtain ⟨w, ew, fin⟩ := fin
    rw [← ew]
    refine e_goto 142 dX4_next_62 (by decide) ?_
    refine e_vreturn dX4_next_142 rfl ?_
    exact ⟨rfl, fin.1, fin.2, rfl, rfl⟩

def zAllF (P : Nat → Bool) : Nat → Nat → Bool
  | 0, _ => true
  | k + 1, i => P i && zAllF P k (i + 1)
/-- the token from a up to e is the k-th name -/
def zSpB (t : zTx) (a e k : Nat) : Bool := decide (e - a = zNl k) && zAllF (fun j => decide (t.2 (a + j) = zNc k j)) (zNl k) 0
set_option maxHeartbeats 4000000 in
set_option maxRecDepth 100000 in
theorem l_X4_spells (G : zG) (d : Nat) (Q : zQ) {D E : Nat} {t : zTx} {ml : zFl} {mr : zFr} (hr : zRf mr D E) (htw : zTxW t) {mi : zFi} {a e k : Nat} (hk : k < 6) (hx : zXt mi t) (h3 : mi 1 3 = nI a) (h4 : mi 1 4 = nI e) (hae : a ≤ e) (het : e ≤ t.1) (hel : e - a = zNl k) : ∀ (n9 i : Nat), i + n9 = zNl k → Q (some (.int (zB (zAllF (fun j => decide (t.2 (a + j) = zNc k j)) n9 i = true) inferInstance))) mi ml mr → zE G (zRm (d + 4) 238 238) (zQm G 238 238 Q) yX4_spells.cls yX4_spells.name cX4_spells 3 (some .boolean) 238 20 [.ref 1, .ref (1000 + k), .int (nI i)] [] 238 mi ml mr := by
  intro n9
  induction n9 with
  | zero =>
    intro i h hQ
    have ht3 := htw.1
    have hl5 := (zNl_le k hk).2
    refine e_iload_n 21 dX4_spells_20 rfl rfl ?_
    refine e_aload_n 22 dX4_spells_21 rfl rfl ?_
    refine c_VSq 25 hk dX4_spells_22 (k_J0_length_8abf5 G hk) lm_X4_133 zi_yJ0_length_8abf5 zs_yJ0_length_8abf5 rfl rfl rfl rfl (Nat.le_of_ble_eq_true rfl) (Nat.le_of_ble_eq_true rfl) (Nat.le_of_ble_eq_true rfl) (by exact Nat.le_refl _) (by exact Nat.le_refl _) ?_
    refine e_icmp_geN 55 28 dX4_spells_25 (by decide) rfl (by omega) (by omega) (fun h25 => ?_) (fun h25 => ?_)
    · refine e_iconst 56 hic_1 dX4_spells_55 rfl ?_
      refine e_ireturn .boolean dX4_spells_56 rfl rfl ?_
      exact hQ
    · exact absurd h25 (by omega)
  | succ n9 ih =>
    intro i h hQ
    have ht3 := htw.1
    have hl5 := (zNl_le k hk).2
    refine e_iload_n 21 dX4_spells_20 rfl rfl ?_
    refine e_aload_n 22 dX4_spells_21 rfl rfl ?_
    refine c_VSq 25 hk dX4_spells_22 (k_J0_length_8abf5 G hk) lm_X4_133 zi_yJ0_length_8abf5 zs_yJ0_length_8abf5 rfl rfl rfl rfl (Nat.le_of_ble_eq_true rfl) (Nat.le_of_ble_eq_true rfl) (Nat.le_of_ble_eq_true rfl) (by exact Nat.le_refl _) (by exact Nat.le_refl _) ?_
    refine e_icmp_geN 55 28 dX4_spells_25 (by decide) rfl (by omega) (by omega) (fun h25 => ?_) (fun h25 => ?_)
    · exact absurd h25 (by omega)
    · refine e_aload_n 29 dX4_spells_28 rfl rfl ?_
      refine e_getr 32 dX4_spells_29 lf_X4_9 rfl rfl rfl (by decide) hr.text ?_
      refine e_aload_n 33 dX4_spells_32 rfl rfl ?_
      refine e_geti 36 dX4_spells_33 lf_X4_46 rfl rfl rfl (by decide) h3 ?_
      refine e_iload_n 37 dX4_spells_36 rfl rfl ?_
      first | refine e_iaddN 38 dX4_spells_37 rfl ?_ | refine e_iadd 38 dX4_spells_37 rfl ?_
      refine e_cald (v := nI (t.2 (a + i))) 39 dX4_spells_38 rfl rfl (by decide) rfl (by show _ < 300; omega) (hx.2 _ (by omega)) ?_
      refine e_aload_n 40 dX4_spells_39 rfl rfl ?_
      refine e_iload_n 41 dX4_spells_40 rfl rfl ?_
      refine c_VSq 44 hk dX4_spells_41 (k_J0_charAt_5068e G hk h25) lm_X4_138 zi_yJ0_charAt_5068e zs_yJ0_charAt_5068e rfl rfl rfl rfl (Nat.le_of_ble_eq_true rfl) (Nat.le_of_ble_eq_true rfl) (Nat.le_of_ble_eq_true rfl) (by exact Nat.le_refl _) (by exact Nat.le_refl _) ?_
      refine e_icmp_eqN 49 47 dX4_spells_44 (by decide) rfl (by have := htw.2 (a + i) (by omega); omega) (by have := (zNc_ok k hk i h25).2.1; omega) (fun h44 => ?_) (fun h44 => ?_)
      · refine e_iinc 52 dX4_spells_49 rfl (by decide) rfl (z_inc hii_1) (zst1_2 rfl) ?_
        refine e_goto 20 dX4_spells_52 (by decide) ?_
        have e0 : zAllF (fun j => decide (t.2 (a + j) = zNc k j)) (n9 + 1) i = zAllF (fun j => decide (t.2 (a + j) = zNc k j)) n9 (i + 1) := by show (decide (t.2 (a + i) = zNc k i) && _) = _; rw [decide_eq_true (by omega)]; rfl
        rw [e0] at hQ
        exact ih (i + 1) (by omega) hQ
      · refine e_iconst 48 hic_0 dX4_spells_47 rfl ?_
        refine e_ireturn .boolean dX4_spells_48 rfl rfl ?_
        have e0 : zAllF (fun j => decide (t.2 (a + j) = zNc k j)) (n9 + 1) i = false := by show (decide (t.2 (a + i) = zNc k i) && _) = false; rw [decide_eq_false (by omega)]; rfl
        rw [e0] at hQ
        exact hQ
set_option maxHeartbeats 4000000 in
set_option maxRecDepth 100000 in
theorem k_X4_spells (G : zG) {D E : Nat} {t : zTx} {ml : zFl} {mr : zFr} (hr : zRf mr D E) (htw : zTxW t) {mi : zFi} {a e k : Nat} (hk : k < 6) (hx : zXt mi t) (h3 : mi 1 3 = nI a) (h4 : mi 1 4 = nI e) (hae : a ≤ e) (het : e ≤ t.1) : zMet G 4 yX4_spells cX4_spells 3 (some .boolean) [.ref 1, .ref (1000 + k)] 238 mi ml mr 238 (zPq (some (.int (zB (zSpB t a e k = true) inferInstance))) mi ml mr) := by
  have ht3 := htw.1
  have hl5 := (zNl_le k hk).2
  refine z_intro ([.ref 1, .ref (1000 + k), zx]) (by decide) rfl (Nat.le_of_ble_eq_true rfl) ?_
  refine e_aload_n 1 dX4_spells_0 rfl rfl ?_
  refine e_geti 4 dX4_spells_1 lf_X4_33 rfl rfl rfl (by decide) h4 ?_
  refine e_aload_n 5 dX4_spells_4 rfl rfl ?_
  refine e_geti 8 dX4_spells_5 lf_X4_46 rfl rfl rfl (by decide) h3 ?_
  first | refine e_isubN 9 dX4_spells_8 rfl (by omega) ?_ | refine e_isub 9 dX4_spells_8 rfl ?_
  refine e_aload_n 10 dX4_spells_9 rfl rfl ?_
  refine c_VSq 13 hk dX4_spells_10 (k_J0_length_8abf5 G hk) lm_X4_133 zi_yJ0_length_8abf5 zs_yJ0_length_8abf5 rfl rfl rfl rfl (Nat.le_of_ble_eq_true rfl) (Nat.le_of_ble_eq_true rfl) (Nat.le_of_ble_eq_true rfl) (by exact Nat.le_refl _) (by exact Nat.le_refl _) ?_
  refine e_icmp_eqN 18 16 dX4_spells_13 (by decide) rfl (by omega) (by omega) (fun h13 => ?_) (fun h13 => ?_)
  · refine e_iconst 19 hic_0 dX4_spells_18 rfl ?_
    refine e_istore_n 20 dX4_spells_19 rfl (by decide) (zst1_2 rfl) ?_
    have e0 : zSpB t a e k = zAllF (fun j => decide (t.2 (a + j) = zNc k j)) (zNl k) 0 := by unfold zSpB; rw [decide_eq_true h13]; rfl
    rw [e0]
    exact l_X4_spells G _ _ hr htw hk hx h3 h4 hae het h13 (zNl k) 0 (by omega) ⟨rfl, rfl, rfl, rfl⟩
  · refine e_iconst 17 hic_0 dX4_spells_16 rfl ?_
    refine e_ireturn .boolean dX4_spells_17 rfl rfl ?_
    have e0 : zSpB t a e k = false := by unfold zSpB; rw [decide_eq_false (by omega)]; rfl
    rw [e0]
    exact ⟨rfl, rfl, rfl, rfl⟩

theorem zValF_0 {f : Nat → Nat} {v : Int32} : ∀ (k i : Nat), zRunF zDig f k i = i → zValF f k i v = v
  | 0, _, _ => rfl
  | k + 1, i, h => by
    have h1 : (if zDig (f i) = true then zRunF zDig f k (i + 1) else i) = i := h
    show (if zDig (f i) = true then _ else v) = v
    split
    · rename_i q
      rw [if_pos q] at h1
      have := (zRunF_b zDig f k (i + 1)).1
      omega
    · rfl
theorem zValF_s {f : Nat → Nat} {k i : Nat} (h : i < zRunF zDig f k i) : ∃ k', zDig (f i) = true ∧ zRunF zDig f k i = zRunF zDig f k' (i + 1) ∧ ∀ v, zValF f k i v = zValF f k' (i + 1) (v * nI 10 + nI (f i) - nI 48) := by
  cases k with
  | zero => exact absurd h (Nat.lt_irrefl _)
  | succ k =>
    have e1 : zRunF zDig f (k + 1) i = if zDig (f i) = true then zRunF zDig f k (i + 1) else i := rfl
    by_cases q : zDig (f i) = true
    · rw [if_pos q] at e1
      refine ⟨k, q, e1, fun v => ?_⟩
      show (if zDig (f i) = true then _ else v) = _
      rw [if_pos q]
    · rw [if_neg q] at e1
      omega
theorem zValF_v {m c : Nat} (h : zDig c = true) : nI m * nI 10 + nI c - nI 48 = nI (m * 10 + (c - 48)) := by
  have h1 := zDig_i.mp h
  rw [nI_mul, nI_add, nI_sub (by omega)]
  congr 1
  omega
/-- a number's value -/
def zTkN (t : zTx) (b : Nat) : Nat := zK (zTkV t b)
theorem zTkN_ok {t : zTx} {b : Nat} (h : zTkK t b = 3) : zTkV t b = nI (zTkN t b) ∧ zTkN t b ≤ 99 := by
  have key : ∃ n, zTkV t b = nI n ∧ n ≤ 99 := by
    unfold zTkK at h
    unfold zTkV
    generalize zTkA t b = a at h ⊢
    by_cases q : t.1 ≤ a
    · rw [if_pos q] at h; cases h
    · rw [if_neg q] at h
      by_cases q2 : zDig (t.2 a) = true
      · rw [if_pos q2] at h
        have h5 : zRun zDig t a - a = 1 ∨ (zRun zDig t a - a = 2 ∧ ¬ t.2 a = 48) := by
          unfold zNumK at h
          by_cases z : zRun zDig t a - a = 1 ∨ (zRun zDig t a - a = 2 ∧ ¬ t.2 a = 48)
          · exact z
          · rw [if_neg z] at h; cases h
        have hgt := zRun_ge zDig t a
        have hlt : a < zRun zDig t a := by omega
        obtain ⟨k', d1, e1, v1⟩ := zValF_s (f := t.2) (k := t.1 - a) (i := a) hlt
        have eR : zRun zDig t a = zRunF zDig t.2 k' (a + 1) := e1
        unfold zVal
        rw [v1, zValF_v d1]
        have b1 := zDig_i.mp d1
        rcases h5 with z | z
        · rw [zValF_0 k' (a + 1) (by omega)]
          exact ⟨_, rfl, by omega⟩
        · have hlt2 : a + 1 < zRunF zDig t.2 k' (a + 1) := by omega
          obtain ⟨k2, d2, e2, v2⟩ := zValF_s hlt2
          have b2 := zDig_i.mp d2
          rw [v2, zValF_v d2, zValF_0 k2 (a + 1 + 1) (by omega)]
          exact ⟨_, rfl, by omega⟩
      · rw [if_neg q2] at h
        split at h
        · cases h
        · split at h <;> cases h
  obtain ⟨n, h1, h2⟩ := key
  unfold zTkN
  rw [h1, zK_nI (by omega)]
  exact ⟨rfl, h2⟩
theorem zTkK_lt {t : zTx} {b : Nat} : zTkK t b < 5 := by
  unfold zTkK zNumK
  split
  · decide
  · split
    · split <;> decide
    · split
      · decide
      · split <;> decide
set_option maxHeartbeats 4000000 in
set_option maxRecDepth 100000 in
theorem k_X4_nextEnds (G : zG) {D E : Nat} {t : zTx} {ml : zFl} {mr : zFr} (hr : zRf mr D E) (htw : zTxW t) {mi : zFi} {b : Nat} (hx : zXt mi t) (h4 : mi 1 4 = nI b) (hb : b ≤ t.1) : zMet G 3 yX4_nextEnds cX4_nextEnds 1 (some .boolean) [.ref 1] 238 mi ml mr 238 (zPi fun x u b' c => x = zB (zTkK t b = 2) inferInstance ∧ zTkR u t b ∧ zFq zJ25 u mi ∧ b' = ml ∧ c = mr) := by
  refine z_intro ([.ref 1]) (by decide) rfl (Nat.le_of_ble_eq_true rfl) ?_
  refine e_aload_n 1 dX4_nextEnds_0 rfl rfl ?_
  refine c_Vv 4 (ci := 4) dX4_nextEnds_1 (k_X4_next G hr htw hx h4 hb) lm_X4_36 zi_yX4_next zs_yX4_next rfl rfl (by decide) rfl rfl rfl (Nat.le_of_ble_eq_true rfl) (Nat.le_of_ble_eq_true rfl) (Nat.le_of_ble_eq_true rfl) (by exact Nat.le_refl _) (by exact Nat.le_refl _) ?_
  rintro u _ _ ⟨r1, f1, rfl, rfl⟩
  have hK9 : zTkK t b < 5 := zTkK_lt
  refine e_aload_n 5 dX4_nextEnds_4 rfl rfl ?_
  refine e_geti 8 dX4_nextEnds_5 lf_X4_39 rfl rfl rfl (by decide) r1.1 ?_
  refine e_iconst 9 hic_2 dX4_nextEnds_8 rfl ?_
  refine e_icmp_neN 16 12 dX4_nextEnds_9 (by decide) rfl (by omega) (by omega) (fun h9 => ?_) (fun h9 => ?_)
  · refine e_iconst 17 hic_0 dX4_nextEnds_16 rfl ?_
    refine e_ireturn .boolean dX4_nextEnds_17 rfl rfl ?_
    exact ⟨_, rfl, by unfold zB; first | rw [if_pos (by omega)] | rw [if_neg (by omega)], r1, f1, rfl, rfl⟩
  · refine e_iconst 13 hic_1 dX4_nextEnds_12 rfl ?_
    refine e_goto 17 dX4_nextEnds_13 (by decide) ?_
    refine e_ireturn .boolean dX4_nextEnds_17 rfl rfl ?_
    exact ⟨_, rfl, by unfold zB; first | rw [if_pos (by omega)] | rw [if_neg (by omega)], r1, f1, rfl, rfl⟩

set_option maxHeartbeats 4000000 in
set_option maxRecDepth 100000 in
theorem k_X4_nextIsNumber (G : zG) {D E : Nat} {t : zTx} {ml : zFl} {mr : zFr} (hr : zRf mr D E) (htw : zTxW t) {mi : zFi} {b : Nat} (hx : zXt mi t) (h4 : mi 1 4 = nI b) (hb : b ≤ t.1) {lo hi : Int32} {l9 P9 : Nat} (hP : ∀ n, n ≤ 99 → ((lo ≤ nI n ∧ nI n ≤ hi) ↔ l9 ≤ n ∧ n < P9)) : zMet G 3 yX4_nextIsNumber cX4_nextIsNumber 3 (some .boolean) [.ref 1, .int lo, .int hi] 238 mi ml mr 238 (zPi fun x u b' c => x = zB (zTkK t b = 3 ∧ l9 ≤ zTkN t b ∧ zTkN t b < P9) inferInstance ∧ zTkR u t b ∧ zFq zJ25 u mi ∧ b' = ml ∧ c = mr) := by
  refine z_intro ([.ref 1, .int lo, .int hi]) (by decide) rfl (Nat.le_of_ble_eq_true rfl) ?_
  refine e_aload_n 1 dX4_nextIsNumber_0 rfl rfl ?_
  refine c_Vv 4 (ci := 4) dX4_nextIsNumber_1 (k_X4_next G hr htw hx h4 hb) lm_X4_36 zi_yX4_next zs_yX4_next rfl rfl (by decide) rfl rfl rfl (Nat.le_of_ble_eq_true rfl) (Nat.le_of_ble_eq_true rfl) (Nat.le_of_ble_eq_true rfl) (by exact Nat.le_refl _) (by exact Nat.le_refl _) ?_
  rintro u _ _ ⟨r1, f1, rfl, rfl⟩
  have hK9 : zTkK t b < 5 := zTkK_lt
  refine e_aload_n 5 dX4_nextIsNumber_4 rfl rfl ?_
  refine e_geti 8 dX4_nextIsNumber_5 lf_X4_39 rfl rfl rfl (by decide) r1.1 ?_
  refine e_iconst 9 hic_3 dX4_nextIsNumber_8 rfl ?_
  refine e_icmp_neN 28 12 dX4_nextIsNumber_9 (by decide) rfl (by omega) (by omega) (fun h9 => ?_) (fun h9 => ?_)
  · refine e_iconst 29 hic_0 dX4_nextIsNumber_28 rfl ?_
    refine e_ireturn .boolean dX4_nextIsNumber_29 rfl rfl ?_
    exact ⟨_, rfl, by unfold zB; first | exact (if_neg (fun z => h9 z.1)).symm | exact (if_neg (fun z => h21 z.2)).symm | exact (if_pos ⟨h9, h21⟩).symm, r1, f1, rfl, rfl⟩
  · have h9 : zTkK t b = 3 := by omega
    obtain ⟨v1, v2⟩ := zTkN_ok h9
    refine e_aload_n 13 dX4_nextIsNumber_12 rfl rfl ?_
    refine e_geti 16 dX4_nextIsNumber_13 lf_X4_89 rfl rfl rfl (by decide) ((r1.2.2.2 h9).trans v1) ?_
    refine e_iload_n 17 dX4_nextIsNumber_16 rfl rfl ?_
    refine e_iload_n 18 dX4_nextIsNumber_17 rfl rfl ?_
    refine c_Sqi 21 dX4_nextIsNumber_18 (k_X7_between G) lm_X4_116 zt_yX7_between rfl rfl rfl (Nat.le_of_ble_eq_true rfl) (Nat.le_of_ble_eq_true rfl) (Nat.le_of_ble_eq_true rfl) (by exact Nat.le_refl _) (by exact Nat.le_refl _) ?_
    rw [zB_eq (d' := inferInstance) (hP _ v2)]
    refine e_if_eq 28 24 dX4_nextIsNumber_21 (by decide) rfl (fun h21 => ?_) (fun h21 => ?_)
    · have h21 := zB_0 h21
      refine e_iconst 29 hic_0 dX4_nextIsNumber_28 rfl ?_
      refine e_ireturn .boolean dX4_nextIsNumber_29 rfl rfl ?_
      exact ⟨_, rfl, by unfold zB; first | exact (if_neg (fun z => h9 z.1)).symm | exact (if_neg (fun z => h21 z.2)).symm | exact (if_pos ⟨h9, h21⟩).symm, r1, f1, rfl, rfl⟩
    · have h21 := zB_1 h21
      refine e_iconst 25 hic_1 dX4_nextIsNumber_24 rfl ?_
      refine e_goto 29 dX4_nextIsNumber_25 (by decide) ?_
      refine e_ireturn .boolean dX4_nextIsNumber_29 rfl rfl ?_
      exact ⟨_, rfl, by unfold zB; first | exact (if_neg (fun z => h9 z.1)).symm | exact (if_neg (fun z => h21 z.2)).symm | exact (if_pos ⟨h9, h21⟩).symm, r1, f1, rfl, rfl⟩

