theorem zOk.nar {x : Int32} {u : zFi} {t : zTx} {E : Nat} {r : Except Nat (zRd × Nat)} (h : zOk x u t E r) : narrow .boolean (.int x) = .int x := by
  cases r with
  | error p => obtain ⟨rfl, -⟩ := h; rfl
  | ok y => obtain ⟨rfl, -⟩ := h; rfl
theorem zOk.y {x : Int32} {u : zFi} {t : zTx} {E : Nat} {r : Except Nat (zRd × Nat)} (h : zOk x u t E r) (hx : ¬ x = 0) : x = nI 1 ∧ ∃ y, r = .ok y ∧ zSt9 u t E y.1 y.2 := by
  cases r with
  | error p => exact absurd (show x = 0 from h.1) hx
  | ok y => exact ⟨h.1, y, rfl, h.2⟩
theorem zOk.n {x : Int32} {u : zFi} {t : zTx} {E : Nat} {r : Except Nat (zRd × Nat)} (h : zOk x u t E r) (hx : x = 0) : x = nI 0 ∧ ∃ p, r = .error p ∧ u 1 3 = nI p := by
  cases r with
  | error p => exact ⟨h.1, p, rfl, h.2⟩
  | ok y => obtain ⟨rfl, -⟩ := h; exact absurd hx (by decide)
set_option maxHeartbeats 4000000 in
set_option maxRecDepth 100000 in
theorem k_X4_readWord (G : zG) {D E : Nat} {t : zTx} {mi : zFi} {ml : zFl} {mr : zFr} (hr : zRf mr D E) (htw : zTxW t) {s : zRd} {a e : Nat} (h : zSt9 mi t E s e) (hw : zRdW s) (h3 : mi 1 3 = nI a) : zMet G 5 yX4_readWord cX4_readWord 6 (some .boolean) [.ref 1, .ref E] 238 mi ml mr 238 (zPi fun x u b c => zOk x u t E (zItWord t s a e) ∧ zFrE E u mi ∧ b = ml ∧ c = mr) := by
  have hE := hr.El.1
  have hP3 := hw.1.1.1
  refine z_intro ([.ref 1, .ref E, zx, zx, zx, zx]) (by decide) rfl (Nat.le_of_ble_eq_true rfl) ?_
  refine e_aload_n 1 dX4_readWord_0 rfl rfl ?_
  refine e_geti 4 dX4_readWord_1 lf_X4_107 rfl rfl hr.dE.k0 hr.dE.l0 h.2.1.1.f1 ?_
  refine e_iconst 5 hic_5 dX4_readWord_4 rfl ?_
  refine e_icmp_geN 17 8 dX4_readWord_5 (by decide) rfl (by have := hw.1.1.2.1; omega) (by omega) (fun h5 => ?_) (fun h5 => ?_)
  · refine e_iconst 18 hic_0 dX4_readWord_17 rfl ?_
    refine e_ireturn .boolean dX4_readWord_18 rfl rfl ?_
    first
      | exact ⟨_, rfl, by unfold zItWord; rw [if_neg (by omega)]; exact ⟨rfl, h3⟩, zFrE.r mi, rfl, rfl⟩
      | exact ⟨_, rfl, by unfold zItWord; rw [if_pos (by omega), zNeed_n h14]; exact ⟨rfl, r1.2.1⟩, g1, rfl, rfl⟩
  · refine e_aload_n 9 dX4_readWord_8 rfl rfl ?_
    refine e_iconst 10 hic_0 dX4_readWord_9 rfl ?_
    refine e_iconst 11 hic_3 dX4_readWord_10 rfl ?_
    refine c_Vi 14 (ci := 4) dX4_readWord_11 (k_X4_nextIsNumber G hr htw h.1 h.2.2.1 h.2.2.2 (zHc (hi := 3) (by decide) (by decide))) lm_X4_85 zi_yX4_nextIsNumber zs_yX4_nextIsNumber rfl rfl (by decide) rfl rfl rfl (Nat.le_of_ble_eq_true rfl) (Nat.le_of_ble_eq_true rfl) (Nat.le_of_ble_eq_true rfl) (by exact Nat.le_refl _) (by exact Nat.le_refl _) ?_
    rintro x1 u1 _ _ ⟨rfl, r1, f1, rfl, rfl⟩
    have q1 := h.q hE r1 f1
    have g1 : zFrE E u1 mi := f1.E
    refine e_if_ne 19 17 dX4_readWord_14 (by decide) rfl (fun h14 => ?_) (fun h14 => ?_)
    · have h14 := zB_1 h14
      refine e_aload_n 20 dX4_readWord_19 rfl rfl ?_
      refine e_geti 23 dX4_readWord_20 lf_X4_89 rfl rfl rfl (by decide) (zVal_ok r1 h14.1) ?_
      refine e_istore_n 24 dX4_readWord_23 rfl (by decide) (zst1_2 rfl) ?_
      refine e_aload_n 25 dX4_readWord_24 rfl rfl ?_
      refine e_iconst 26 hic_0 dX4_readWord_25 rfl ?_
      refine e_bipush 28 hbi_90 dX4_readWord_26 rfl ?_
      refine c_Vi 31 (ci := 4) dX4_readWord_28 (k_X4_nextIsNumber G hr htw q1.1 q1.2.2.1 q1.2.2.2 (zHc (hi := 90) (by decide) (by decide))) lm_X4_85 zi_yX4_nextIsNumber zs_yX4_nextIsNumber rfl rfl (by decide) rfl rfl rfl (Nat.le_of_ble_eq_true rfl) (Nat.le_of_ble_eq_true rfl) (Nat.le_of_ble_eq_true rfl) (by exact Nat.le_refl _) (by exact Nat.le_refl _) ?_
      rintro x2 u2 _ _ ⟨rfl, r2, f2, rfl, rfl⟩
      have q2 := q1.q hE r2 f2
      have g2 : zFrE E u2 mi := f2.E.t g1
      refine e_if_ne 36 34 dX4_readWord_31 (by decide) rfl (fun h31 => ?_) (fun h31 => ?_)
      · have h31 := zB_1 h31
        refine e_aload_n 37 dX4_readWord_36 rfl rfl ?_
        refine e_geti 40 dX4_readWord_37 lf_X4_89 rfl rfl rfl (by decide) (zVal_ok r2 h31.1) ?_
        refine e_istore_n 41 dX4_readWord_40 rfl (by decide) (zst1_3 rfl) ?_
        refine e_aload_n 42 dX4_readWord_41 rfl rfl ?_
        refine e_iconst 43 hic_0 dX4_readWord_42 rfl ?_
        refine e_aload_n 44 dX4_readWord_43 rfl rfl ?_
        refine e_geti 47 dX4_readWord_44 lf_X4_78 rfl rfl hr.dE.k0 hr.dE.l0 q2.2.1.1.f0 ?_
        refine e_iconst 48 hic_1 dX4_readWord_47 rfl ?_
        refine e_isub 49 dX4_readWord_48 rfl ?_
        refine c_Vi 52 (ci := 4) dX4_readWord_49 (k_X4_nextIsNumber G hr htw q2.1 q2.2.2.1 q2.2.2.2 (zHp hP3)) lm_X4_85 zi_yX4_nextIsNumber zs_yX4_nextIsNumber rfl rfl (by decide) rfl rfl rfl (Nat.le_of_ble_eq_true rfl) (Nat.le_of_ble_eq_true rfl) (Nat.le_of_ble_eq_true rfl) (by exact Nat.le_refl _) (by exact Nat.le_refl _) ?_
        rintro x3 u3 _ _ ⟨rfl, r3, f3, rfl, rfl⟩
        have q3 := q2.q hE r3 f3
        have g3 : zFrE E u3 mi := f3.E.t g2
        refine e_if_ne 57 55 dX4_readWord_52 (by decide) rfl (fun h52 => ?_) (fun h52 => ?_)
        · have h52 := zB_1 h52
          refine e_aload_n 58 dX4_readWord_57 rfl rfl ?_
          refine e_geti 61 dX4_readWord_58 lf_X4_89 rfl rfl rfl (by decide) (zVal_ok r3 h52.1) ?_
          refine e_istore 63 dX4_readWord_61 rfl (by decide) (zst1_4 rfl) ?_
          refine e_aload_n 64 dX4_readWord_63 rfl rfl ?_
          refine c_Vv 67 (ci := 4) dX4_readWord_64 (k_X4_next G hr htw q3.1 q3.2.2.1 q3.2.2.2) lm_X4_36 zi_yX4_next zs_yX4_next rfl rfl (by decide) rfl rfl rfl (Nat.le_of_ble_eq_true rfl) (Nat.le_of_ble_eq_true rfl) (Nat.le_of_ble_eq_true rfl) (by exact Nat.le_refl _) (by exact Nat.le_refl _) ?_
          rintro u4 _ _ ⟨r4, f4, rfl, rfl⟩
          have q4 := q3.q hE r4 f4
          have g4 : zFrE E u4 mi := f4.E.t g3
          refine e_aload_n 68 dX4_readWord_67 rfl rfl ?_
          refine e_ldcS 70 5 dX4_readWord_68 rfl rfl (by decide) rfl ?_
          refine c_Vqi 73 (ci := 4) dX4_readWord_70 (k_X4_spells G hr htw (k := 5) (by decide) q4.1 r4.2.1 q4.2.2.1 (zTk_b q3.2.2.2).2.2.1 q4.2.2.2) lm_X4_51 zi_yX4_spells zs_yX4_spells rfl rfl (by decide) rfl rfl rfl (Nat.le_of_ble_eq_true rfl) (Nat.le_of_ble_eq_true rfl) (Nat.le_of_ble_eq_true rfl) (by exact Nat.le_refl _) (by exact Nat.le_refl _) ?_
          refine e_istore 75 dX4_readWord_73 rfl (by decide) (zst1_5 rfl) ?_
          refine e_iload 77 dX4_readWord_75 rfl rfl ?_
          refine e_if_eq 84 80 dX4_readWord_77 (by decide) rfl (fun h77 => ?_) (fun h77 => ?_)
          · have e5 : (zB (zSpB t (zTkA t (zTkE t (zTkE t (zTkE t e)))) (zTkE t (zTkE t (zTkE t (zTkE t e)))) 5 = true) inferInstance) = nI 0 := h77
            have h77 := zB_0 h77
            rw [e5]
            have eb : zPlB t (zTkE t (zTkE t (zTkE t e))) = (zTkE t (zTkE t (zTkE t e))) := if_neg h77
            have ek : zPlV t (zTkE t (zTkE t (zTkE t e))) = 0 := if_neg h77
            have rz : zTkR u4 t (zPlB t (zTkE t (zTkE t (zTkE t e)))) := by rw [eb]; exact r4
            have qz : zSt9 u4 t E s (zTkE t (zPlB t (zTkE t (zTkE t (zTkE t e))))) := by rw [eb]; exact q4
            have gz := g4
            refine e_aload_n 85 dX4_readWord_84 rfl rfl ?_
            refine e_iload_n 86 dX4_readWord_85 rfl rfl ?_
            refine e_iload_n 87 dX4_readWord_86 rfl rfl ?_
            refine e_iload 89 dX4_readWord_87 rfl rfl ?_
            refine e_iload 91 dX4_readWord_89 rfl rfl ?_
            refine c_Vv 94 (ci := 0) dX4_readWord_91 (k_X0_addWord G hr.dE qz.2.1.1 (by omega) (by decide)) lm_X4_112 zi_yX0_addWord zs_yX0_addWord rfl hr.dE.k0 hr.dE.l0 rfl rfl rfl (Nat.le_of_ble_eq_true rfl) (Nat.le_of_ble_eq_true rfl) (Nat.le_of_ble_eq_true rfl) (by exact Nat.le_refl _) (by exact Nat.le_refl _) ?_
            rintro u7 _ _ ⟨l7, o7, rfl, rfl⟩
            have q7 := qz.l hE l7 o7
            rw [← ek] at q7
            have g7 : zFrE E u7 mi := (zFrE.l hE o7).t gz
            have hK9 : zTkK t (zPlB t (zTkE t (zTkE t (zTkE t e)))) < 5 := zTkK_lt
            refine e_aload_n 95 dX4_readWord_94 rfl rfl ?_
            refine e_geti (v := nI (zTkK t (zPlB t (zTkE t (zTkE t (zTkE t e)))))) 98 dX4_readWord_95 lf_X4_39 rfl rfl rfl (by decide) (by rw [o7 1 (by omega)]; exact rz.1) ?_
            refine e_iconst 99 hic_2 dX4_readWord_98 rfl ?_
            refine e_icmp_neN 106 102 dX4_readWord_99 (by decide) rfl (by omega) (by omega) (fun h99 => ?_) (fun h99 => ?_)
            · refine e_iconst 107 hic_0 dX4_readWord_106 rfl ?_
              refine e_ireturn .boolean dX4_readWord_107 rfl rfl ?_
              first
                | exact ⟨_, rfl, by unfold zItWord; rw [if_pos (by omega), zNeed_y h14, zNeed_y h31, zNeed_y h52]; unfold zFin; rw [if_pos h99]; exact ⟨rfl, q7⟩, g7, rfl, rfl⟩
                | exact ⟨_, rfl, by unfold zItWord; rw [if_pos (by omega), zNeed_y h14, zNeed_y h31, zNeed_y h52]; unfold zFin; rw [if_neg h99]; exact ⟨rfl, by rw [o7 1 (by omega)]; exact rz.2.1⟩, g7, rfl, rfl⟩
            · refine e_iconst 103 hic_1 dX4_readWord_102 rfl ?_
              refine e_goto 107 dX4_readWord_103 (by decide) ?_
              refine e_ireturn .boolean dX4_readWord_107 rfl rfl ?_
              first
                | exact ⟨_, rfl, by unfold zItWord; rw [if_pos (by omega), zNeed_y h14, zNeed_y h31, zNeed_y h52]; unfold zFin; rw [if_pos h99]; exact ⟨rfl, q7⟩, g7, rfl, rfl⟩
                | exact ⟨_, rfl, by unfold zItWord; rw [if_pos (by omega), zNeed_y h14, zNeed_y h31, zNeed_y h52]; unfold zFin; rw [if_neg h99]; exact ⟨rfl, by rw [o7 1 (by omega)]; exact rz.2.1⟩, g7, rfl, rfl⟩
          · have h77 := zB_1 h77
            have e5 : (zB (zSpB t (zTkA t (zTkE t (zTkE t (zTkE t e)))) (zTkE t (zTkE t (zTkE t (zTkE t e)))) 5 = true) inferInstance) = nI 1 := if_pos h77
            rw [e5]
            have eb : zPlB t (zTkE t (zTkE t (zTkE t e))) = zTkE t (zTkE t (zTkE t (zTkE t e))) := if_pos h77
            have ek : zPlV t (zTkE t (zTkE t (zTkE t e))) = 1 := if_pos h77
            refine e_aload_n 81 dX4_readWord_80 rfl rfl ?_
            refine c_Vv 84 (ci := 4) dX4_readWord_81 (k_X4_next G hr htw q4.1 q4.2.2.1 q4.2.2.2) lm_X4_36 zi_yX4_next zs_yX4_next rfl rfl (by decide) rfl rfl rfl (Nat.le_of_ble_eq_true rfl) (Nat.le_of_ble_eq_true rfl) (Nat.le_of_ble_eq_true rfl) (by exact Nat.le_refl _) (by exact Nat.le_refl _) ?_
            rintro u5 _ _ ⟨r5, f5, rfl, rfl⟩
            have rz : zTkR u5 t (zPlB t (zTkE t (zTkE t (zTkE t e)))) := by rw [eb]; exact r5
            have qz : zSt9 u5 t E s (zTkE t (zPlB t (zTkE t (zTkE t (zTkE t e))))) := by rw [eb]; exact q4.q hE r5 f5
            have gz : zFrE E u5 mi := f5.E.t g4
            refine e_aload_n 85 dX4_readWord_84 rfl rfl ?_
            refine e_iload_n 86 dX4_readWord_85 rfl rfl ?_
            refine e_iload_n 87 dX4_readWord_86 rfl rfl ?_
            refine e_iload 89 dX4_readWord_87 rfl rfl ?_
            refine e_iload 91 dX4_readWord_89 rfl rfl ?_
            refine c_Vv 94 (ci := 0) dX4_readWord_91 (k_X0_addWord G hr.dE qz.2.1.1 (by omega) (by decide)) lm_X4_112 zi_yX0_addWord zs_yX0_addWord rfl hr.dE.k0 hr.dE.l0 rfl rfl rfl (Nat.le_of_ble_eq_true rfl) (Nat.le_of_ble_eq_true rfl) (Nat.le_of_ble_eq_true rfl) (by exact Nat.le_refl _) (by exact Nat.le_refl _) ?_
            rintro u7 _ _ ⟨l7, o7, rfl, rfl⟩
            have q7 := qz.l hE l7 o7
            rw [← ek] at q7
            have g7 : zFrE E u7 mi := (zFrE.l hE o7).t gz
            have hK9 : zTkK t (zPlB t (zTkE t (zTkE t (zTkE t e)))) < 5 := zTkK_lt
            refine e_aload_n 95 dX4_readWord_94 rfl rfl ?_
            refine e_geti (v := nI (zTkK t (zPlB t (zTkE t (zTkE t (zTkE t e)))))) 98 dX4_readWord_95 lf_X4_39 rfl rfl rfl (by decide) (by rw [o7 1 (by omega)]; exact rz.1) ?_
            refine e_iconst 99 hic_2 dX4_readWord_98 rfl ?_
            refine e_icmp_neN 106 102 dX4_readWord_99 (by decide) rfl (by omega) (by omega) (fun h99 => ?_) (fun h99 => ?_)
            · refine e_iconst 107 hic_0 dX4_readWord_106 rfl ?_
              refine e_ireturn .boolean dX4_readWord_107 rfl rfl ?_
              first
                | exact ⟨_, rfl, by unfold zItWord; rw [if_pos (by omega), zNeed_y h14, zNeed_y h31, zNeed_y h52]; unfold zFin; rw [if_pos h99]; exact ⟨rfl, q7⟩, g7, rfl, rfl⟩
                | exact ⟨_, rfl, by unfold zItWord; rw [if_pos (by omega), zNeed_y h14, zNeed_y h31, zNeed_y h52]; unfold zFin; rw [if_neg h99]; exact ⟨rfl, by rw [o7 1 (by omega)]; exact rz.2.1⟩, g7, rfl, rfl⟩
            · refine e_iconst 103 hic_1 dX4_readWord_102 rfl ?_
              refine e_goto 107 dX4_readWord_103 (by decide) ?_
              refine e_ireturn .boolean dX4_readWord_107 rfl rfl ?_
              first
                | exact ⟨_, rfl, by unfold zItWord; rw [if_pos (by omega), zNeed_y h14, zNeed_y h31, zNeed_y h52]; unfold zFin; rw [if_pos h99]; exact ⟨rfl, q7⟩, g7, rfl, rfl⟩
                | exact ⟨_, rfl, by unfold zItWord; rw [if_pos (by omega), zNeed_y h14, zNeed_y h31, zNeed_y h52]; unfold zFin; rw [if_neg h99]; exact ⟨rfl, by rw [o7 1 (by omega)]; exact rz.2.1⟩, g7, rfl, rfl⟩
        · have h52 := zB_0 h52
          refine e_iconst 56 hic_0 dX4_readWord_55 rfl ?_
          refine e_ireturn .boolean dX4_readWord_56 rfl rfl ?_
          exact ⟨_, rfl, by unfold zItWord; rw [if_pos (by omega), zNeed_y h14, zNeed_y h31, zNeed_n h52]; exact ⟨rfl, r3.2.1⟩, g3, rfl, rfl⟩
      · have h31 := zB_0 h31
        refine e_iconst 35 hic_0 dX4_readWord_34 rfl ?_
        refine e_ireturn .boolean dX4_readWord_35 rfl rfl ?_
        exact ⟨_, rfl, by unfold zItWord; rw [if_pos (by omega), zNeed_y h14, zNeed_n h31]; exact ⟨rfl, r2.2.1⟩, g2, rfl, rfl⟩
    · have h14 := zB_0 h14
      refine e_iconst 18 hic_0 dX4_readWord_17 rfl ?_
      refine e_ireturn .boolean dX4_readWord_18 rfl rfl ?_
      first
        | exact ⟨_, rfl, by unfold zItWord; rw [if_neg (by omega)]; exact ⟨rfl, h3⟩, zFrE.r mi, rfl, rfl⟩
        | exact ⟨_, rfl, by unfold zItWord; rw [if_pos (by omega), zNeed_n h14]; exact ⟨rfl, r1.2.1⟩, g1, rfl, rfl⟩

set_option maxHeartbeats 4000000 in
set_option maxRecDepth 100000 in
theorem k_X4_readItem (G : zG) {D E : Nat} {t : zTx} {mi : zFi} {ml : zFl} {mr : zFr} (hr : zRf mr D E) (htw : zTxW t) {s : zRd} {b : Nat} (hb : b ≤ t.1) (r0 : zTkR mi t b) (h : zSt9 mi t E s (zTkE t b)) (hw : zRdW s) : zMet G 6 yX4_readItem cX4_readItem 2 (some .boolean) [.ref 1, .ref E] 238 mi ml mr 238 (zPi fun x u b9 c => zOk x u t E (zItem t s b) ∧ zFrE E u mi ∧ b9 = ml ∧ c = mr) := by
  have hE := hr.El.1
  refine z_intro ([.ref 1, .ref E]) (by decide) rfl (Nat.le_of_ble_eq_true rfl) ?_
  refine e_aload_n 1 dX4_readItem_0 rfl rfl ?_
  refine e_ldcS 3 0 dX4_readItem_1 rfl rfl (by decide) rfl ?_
  refine c_Vqi 6 (ci := 4) dX4_readItem_3 (k_X4_spells G hr htw (k := 0) (by decide) h.1 r0.2.1 h.2.2.1 (zTk_b hb).2.2.1 h.2.2.2) lm_X4_51 zi_yX4_spells zs_yX4_spells rfl rfl (by decide) rfl rfl rfl (Nat.le_of_ble_eq_true rfl) (Nat.le_of_ble_eq_true rfl) (Nat.le_of_ble_eq_true rfl) (by exact Nat.le_refl _) (by exact Nat.le_refl _) ?_
  refine e_if_eq 15 9 dX4_readItem_6 (by decide) rfl (fun h6 => ?_) (fun h6 => ?_)
  · have h6 := zB_0 h6
    refine e_aload_n 16 dX4_readItem_15 rfl rfl ?_
    refine e_ldcS 18 1 dX4_readItem_16 rfl rfl (by decide) rfl ?_
    refine c_Vqi 21 (ci := 4) dX4_readItem_18 (k_X4_spells G hr htw (k := 1) (by decide) h.1 r0.2.1 h.2.2.1 (zTk_b hb).2.2.1 h.2.2.2) lm_X4_51 zi_yX4_spells zs_yX4_spells rfl rfl (by decide) rfl rfl rfl (Nat.le_of_ble_eq_true rfl) (Nat.le_of_ble_eq_true rfl) (Nat.le_of_ble_eq_true rfl) (by exact Nat.le_refl _) (by exact Nat.le_refl _) ?_
    refine e_if_eq 30 24 dX4_readItem_21 (by decide) rfl (fun h21 => ?_) (fun h21 => ?_)
    · have h21 := zB_0 h21
      refine e_aload_n 31 dX4_readItem_30 rfl rfl ?_
      refine e_ldcS 33 2 dX4_readItem_31 rfl rfl (by decide) rfl ?_
      refine c_Vqi 36 (ci := 4) dX4_readItem_33 (k_X4_spells G hr htw (k := 2) (by decide) h.1 r0.2.1 h.2.2.1 (zTk_b hb).2.2.1 h.2.2.2) lm_X4_51 zi_yX4_spells zs_yX4_spells rfl rfl (by decide) rfl rfl rfl (Nat.le_of_ble_eq_true rfl) (Nat.le_of_ble_eq_true rfl) (Nat.le_of_ble_eq_true rfl) (by exact Nat.le_refl _) (by exact Nat.le_refl _) ?_
      refine e_if_eq 45 39 dX4_readItem_36 (by decide) rfl (fun h36 => ?_) (fun h36 => ?_)
      · have h36 := zB_0 h36
        refine e_aload_n 46 dX4_readItem_45 rfl rfl ?_
        refine e_ldcS 48 3 dX4_readItem_46 rfl rfl (by decide) rfl ?_
        refine c_Vqi 51 (ci := 4) dX4_readItem_48 (k_X4_spells G hr htw (k := 3) (by decide) h.1 r0.2.1 h.2.2.1 (zTk_b hb).2.2.1 h.2.2.2) lm_X4_51 zi_yX4_spells zs_yX4_spells rfl rfl (by decide) rfl rfl rfl (Nat.le_of_ble_eq_true rfl) (Nat.le_of_ble_eq_true rfl) (Nat.le_of_ble_eq_true rfl) (by exact Nat.le_refl _) (by exact Nat.le_refl _) ?_
        refine e_if_eq 60 54 dX4_readItem_51 (by decide) rfl (fun h51 => ?_) (fun h51 => ?_)
        · have h51 := zB_0 h51
          refine e_aload_n 61 dX4_readItem_60 rfl rfl ?_
          refine e_ldcS 63 4 dX4_readItem_61 rfl rfl (by decide) rfl ?_
          refine c_Vqi 66 (ci := 4) dX4_readItem_63 (k_X4_spells G hr htw (k := 4) (by decide) h.1 r0.2.1 h.2.2.1 (zTk_b hb).2.2.1 h.2.2.2) lm_X4_51 zi_yX4_spells zs_yX4_spells rfl rfl (by decide) rfl rfl rfl (Nat.le_of_ble_eq_true rfl) (Nat.le_of_ble_eq_true rfl) (Nat.le_of_ble_eq_true rfl) (by exact Nat.le_refl _) (by exact Nat.le_refl _) ?_
          refine e_if_eq 81 69 dX4_readItem_66 (by decide) rfl (fun h66 => ?_) (fun h66 => ?_)
          · have h66 := zB_0 h66
            refine e_iconst 82 hic_0 dX4_readItem_81 rfl ?_
            refine e_ireturn .boolean dX4_readItem_82 rfl rfl ?_
            first
              | exact ⟨_, rfl, by unfold zItem; rw [if_neg h6, if_neg h21, if_neg h36, if_neg h51, if_pos h66]; exact ok1, g1, rfl, rfl⟩
              | exact ⟨_, rfl, by unfold zItem; rw [if_neg h6, if_neg h21, if_neg h36, if_neg h51, if_neg h66]; exact ⟨rfl, r0.2.1⟩, zFrE.r mi, rfl, rfl⟩
          · have h66 := zB_1 h66
            refine e_aload_n 70 dX4_readItem_69 rfl rfl ?_
            refine e_aload_n 71 dX4_readItem_70 rfl rfl ?_
            refine c_Vi 74 (ci := 4) dX4_readItem_71 (k_X4_readWord G hr htw h hw r0.2.1) lm_X4_75 zi_yX4_readWord zs_yX4_readWord rfl rfl (by decide) rfl rfl rfl (Nat.le_of_ble_eq_true rfl) (Nat.le_of_ble_eq_true rfl) (Nat.le_of_ble_eq_true rfl) (by exact Nat.le_refl _) (by exact Nat.le_refl _) ?_
            rintro x1 u1 _ _ ⟨ok1, g1, rfl, rfl⟩
            refine e_if_eq 81 77 dX4_readItem_74 (by decide) rfl (fun h74 => ?_) (fun h74 => ?_)
            · have e1 := (ok1.n h74).1
              rw [e1] at ok1
              refine e_iconst 82 hic_0 dX4_readItem_81 rfl ?_
              refine e_ireturn .boolean dX4_readItem_82 rfl rfl ?_
              first
                | exact ⟨_, rfl, by unfold zItem; rw [if_neg h6, if_neg h21, if_neg h36, if_neg h51, if_pos h66]; exact ok1, g1, rfl, rfl⟩
                | exact ⟨_, rfl, by unfold zItem; rw [if_neg h6, if_neg h21, if_neg h36, if_neg h51, if_neg h66]; exact ⟨rfl, r0.2.1⟩, zFrE.r mi, rfl, rfl⟩
            · have e1 := (ok1.y h74).1
              rw [e1] at ok1
              refine e_iconst 78 hic_1 dX4_readItem_77 rfl ?_
              refine e_goto 82 dX4_readItem_78 (by decide) ?_
              refine e_ireturn .boolean dX4_readItem_82 rfl rfl ?_
              first
                | exact ⟨_, rfl, by unfold zItem; rw [if_neg h6, if_neg h21, if_neg h36, if_neg h51, if_pos h66]; exact ok1, g1, rfl, rfl⟩
                | exact ⟨_, rfl, by unfold zItem; rw [if_neg h6, if_neg h21, if_neg h36, if_neg h51, if_neg h66]; exact ⟨rfl, r0.2.1⟩, zFrE.r mi, rfl, rfl⟩
        · have h51 := zB_1 h51
          refine e_aload_n 55 dX4_readItem_54 rfl rfl ?_
          refine e_aload_n 56 dX4_readItem_55 rfl rfl ?_
          refine c_Vi 59 (ci := 4) dX4_readItem_56 (k_X4_readStart G hr htw h hw r0.2.1) lm_X4_70 zi_yX4_readStart zs_yX4_readStart rfl rfl (by decide) rfl rfl rfl (Nat.le_of_ble_eq_true rfl) (Nat.le_of_ble_eq_true rfl) (Nat.le_of_ble_eq_true rfl) (by exact Nat.le_refl _) (by exact Nat.le_refl _) ?_
          rintro x1 u1 _ _ ⟨ok1, g1, rfl, rfl⟩
          refine e_ireturn .boolean dX4_readItem_59 rfl ok1.nar ?_
          exact ⟨_, rfl, by unfold zItem; rw [if_neg h6, if_neg h21, if_neg h36, if_pos h51]; exact ok1, g1, rfl, rfl⟩
      · have h36 := zB_1 h36
        refine e_aload_n 40 dX4_readItem_39 rfl rfl ?_
        refine e_aload_n 41 dX4_readItem_40 rfl rfl ?_
        refine c_Vi 44 (ci := 4) dX4_readItem_41 (k_X4_readLaw G hr htw h hw r0.2.1) lm_X4_65 zi_yX4_readLaw zs_yX4_readLaw rfl rfl (by decide) rfl rfl rfl (Nat.le_of_ble_eq_true rfl) (Nat.le_of_ble_eq_true rfl) (Nat.le_of_ble_eq_true rfl) (by exact Nat.le_refl _) (by exact Nat.le_refl _) ?_
        rintro x1 u1 _ _ ⟨ok1, g1, rfl, rfl⟩
        refine e_ireturn .boolean dX4_readItem_44 rfl ok1.nar ?_
        exact ⟨_, rfl, by unfold zItem; rw [if_neg h6, if_neg h21, if_pos h36]; exact ok1, g1, rfl, rfl⟩
    · have h21 := zB_1 h21
      refine e_aload_n 25 dX4_readItem_24 rfl rfl ?_
      refine e_aload_n 26 dX4_readItem_25 rfl rfl ?_
      refine c_Vi 29 (ci := 4) dX4_readItem_26 (k_X4_readNear G hr htw h hw r0.2.1) lm_X4_60 zi_yX4_readNear zs_yX4_readNear rfl rfl (by decide) rfl rfl rfl (Nat.le_of_ble_eq_true rfl) (Nat.le_of_ble_eq_true rfl) (Nat.le_of_ble_eq_true rfl) (by exact Nat.le_refl _) (by exact Nat.le_refl _) ?_
      rintro x1 u1 _ _ ⟨ok1, g1, rfl, rfl⟩
      refine e_ireturn .boolean dX4_readItem_29 rfl ok1.nar ?_
      exact ⟨_, rfl, by unfold zItem; rw [if_neg h6, if_pos h21]; exact ok1, g1, rfl, rfl⟩
  · have h6 := zB_1 h6
    refine e_aload_n 10 dX4_readItem_9 rfl rfl ?_
    refine e_aload_n 11 dX4_readItem_10 rfl rfl ?_
    refine c_Vi 14 (ci := 4) dX4_readItem_11 (k_X4_readPlace G hr htw h hw r0.2.1) lm_X4_55 zi_yX4_readPlace zs_yX4_readPlace rfl rfl (by decide) rfl rfl rfl (Nat.le_of_ble_eq_true rfl) (Nat.le_of_ble_eq_true rfl) (Nat.le_of_ble_eq_true rfl) (by exact Nat.le_refl _) (by exact Nat.le_refl _) ?_
    rintro x1 u1 _ _ ⟨ok1, g1, rfl, rfl⟩
    refine e_ireturn .boolean dX4_readItem_14 rfl ok1.nar ?_
    exact ⟨_, rfl, by unfold zItem; rw [if_pos h6]; exact ok1, g1, rfl, rfl⟩

theorem zFin_i {t : zTx} {b : Nat} {s : zRd} {y : zRd × Nat} (h : zFin t b s = .ok y) : zTkK t b = 2 ∧ y = (s, zTkE t b) := by
  unfold zFin at h
  by_cases q : zTkK t b = 2
  · rw [if_pos q] at h; cases h; exact ⟨q, rfl⟩
  · rw [if_neg q] at h; cases h
theorem zNeed_i {t : zTx} {lo hi b : Nat} {k : Nat → Except Nat (zRd × Nat)} {y : zRd × Nat} (h : zNeed t lo hi b k = .ok y) : (zTkK t b = 3 ∧ lo ≤ zTkN t b ∧ zTkN t b < hi) ∧ k (zTkN t b) = .ok y := by
  unfold zNeed at h
  by_cases q : zTkK t b = 3 ∧ lo ≤ zTkN t b ∧ zTkN t b < hi
  · rw [if_pos q] at h; exact ⟨q, h⟩
  · rw [if_neg q] at h; cases h
theorem ite_i {c : Prop} {d : Decidable c} {r : Except Nat (zRd × Nat)} {p : Nat} {y : zRd × Nat} (h : (@ite _ c d r (.error p)) = .ok y) : c ∧ r = .ok y := by
  by_cases q : c
  · rw [if_pos q] at h; exact ⟨q, h⟩
  · rw [if_neg q] at h; cases h
theorem zPlV_le {t : zTx} {b : Nat} : zPlV t b ≤ 1 := by unfold zPlV; split <;> decide
/-- an item well read: the draft stays well-formed, the reader goes on -/
theorem zItem_W {t : zTx} {s : zRd} {b : Nat} {y : zRd × Nat} (hw : zRdW s) (hb : b ≤ t.1) (h : zItem t s b = .ok y) : zRdW y.1 ∧ b < y.2 ∧ y.2 ≤ t.1 := by
  have k0 := zTk_b hb
  have k1 := zTk_b k0.2.2.2.1
  have k2 := zTk_b k1.2.2.2.1
  have k3 := zTk_b k2.2.2.2.1
  have k4 := zTk_b k3.2.2.2.1
  unfold zItem at h
  by_cases c0 : zSpB t (zTkA t b) (zTkE t b) 0 = true
  · rw [if_pos c0] at h
    obtain ⟨h1, h⟩ := ite_i h
    obtain ⟨h2, h⟩ := zFin_i h
    subst h
    exact ⟨⟨zSetF_W hw.1 (Or.inl ⟨rfl, rfl, h1⟩), hw.2⟩, by have := k1.2.2.2.2 (by omega); omega, k1.2.2.2.1⟩
  · rw [if_neg c0] at h
    by_cases c1 : zSpB t (zTkA t b) (zTkE t b) 1 = true
    · rw [if_pos c1] at h
      obtain ⟨h1, h⟩ := zNeed_i h
      obtain ⟨h2, h⟩ := ite_i h
      obtain ⟨h3, h⟩ := zNeed_i h
      obtain ⟨h4, h⟩ := zFin_i h
      subst h
      exact ⟨⟨zSetN_W hw.1 (by omega), hw.2⟩, by have := k4.2.2.2.2 (by omega); omega, k4.2.2.2.1⟩
    · rw [if_neg c1] at h
      by_cases c2 : zSpB t (zTkA t b) (zTkE t b) 2 = true
      · rw [if_pos c2] at h
        obtain ⟨h1, h⟩ := ite_i h
        obtain ⟨h2, h⟩ := zNeed_i h
        obtain ⟨h3, h⟩ := zNeed_i h
        obtain ⟨h4, h⟩ := zNeed_i h
        obtain ⟨h5, h⟩ := zFin_i h
        subst h
        exact ⟨⟨zSetF_W (zSetF_W (zSetF_W hw.1 (Or.inr (Or.inl ⟨Or.inl rfl, by omega⟩))) (Or.inr (Or.inl ⟨Or.inr (Or.inl rfl), by omega⟩))) (Or.inr (Or.inl ⟨Or.inr (Or.inr rfl), by omega⟩)), Nat.le_refl 1, hw.2.2⟩, by have := k4.2.2.2.2 (by omega); omega, k4.2.2.2.1⟩
      · rw [if_neg c2] at h
        by_cases c3 : zSpB t (zTkA t b) (zTkE t b) 3 = true
        · rw [if_pos c3] at h
          obtain ⟨h1, h⟩ := ite_i h
          obtain ⟨h2, h⟩ := zNeed_i h
          obtain ⟨h5, h⟩ := zFin_i h
          subst h
          exact ⟨⟨zSetF_W hw.1 (Or.inr (Or.inr ⟨rfl, by omega, by omega⟩)), hw.2.1, Nat.le_refl 1⟩, by have := k2.2.2.2.2 (by omega); omega, k2.2.2.2.1⟩
        · rw [if_neg c3] at h
          obtain ⟨c4, h⟩ := ite_i h
          obtain ⟨h1, h⟩ := ite_i h
          obtain ⟨h2, h⟩ := zNeed_i h
          obtain ⟨h3, h⟩ := zNeed_i h
          obtain ⟨h4, h⟩ := zNeed_i h
          obtain ⟨h5, h⟩ := zFin_i h
          subst h
          have kb : zTkE t (zTkE t (zTkE t (zTkE t b))) ≤ zPlB t (zTkE t (zTkE t (zTkE t (zTkE t b)))) ∧ zPlB t (zTkE t (zTkE t (zTkE t (zTkE t b)))) ≤ t.1 := by
            unfold zPlB
            split
            · exact ⟨by omega, k4.2.2.2.1⟩
            · exact ⟨Nat.le_refl _, k3.2.2.2.1⟩
          have k5 := zTk_b kb.2
          exact ⟨⟨zAddW_W hw.1 h1 (by omega) (by omega) h4.2.2 zPlV_le, hw.2⟩, by have := k5.2.2.2.2 (by omega); show b < zTkE t _; omega, k5.2.2.2.1⟩
/-- all items: how many, what they say; or the byte of the fault -/
def zLandF (t : zTx) : Nat → Nat → zRd → Nat → Except Nat (Nat × zRd)
  | 0, n, s, _ => .ok (n, s)
  | k + 1, n, s, b => if zTkK t b = 0 then .ok (n, s) else match zItem t s b with
    | .error p => .error p
    | .ok y => zLandF t k (n + 1) y.1 y.2
def zRd0 : zRd := (zL0, 0, 0)
theorem zRd0_W : zRdW zRd0 := ⟨zL0_W, Nat.zero_le _, Nat.zero_le _⟩
def zLandP (t : zTx) : Except Nat (Nat × zRd) := zLandF t 300 0 zRd0 0
theorem zLandF_W {t : zTx} : ∀ (k n : Nat) (s : zRd) (b : Nat) (y : Nat × zRd), zRdW s → b ≤ t.1 → zLandF t k n s b = .ok y → zRdW y.2 ∧ y.1 ≤ n + k
  | 0, n, s, b, y, hw, _, h => by cases h; exact ⟨hw, Nat.le_refl _⟩
  | k + 1, n, s, b, y, hw, hb, h => by
    have e : zLandF t (k + 1) n s b = if zTkK t b = 0 then .ok (n, s) else match zItem t s b with
      | .error p => .error p
      | .ok y => zLandF t k (n + 1) y.1 y.2 := rfl
    rw [e] at h
    by_cases q : zTkK t b = 0
    · rw [if_pos q] at h; cases h; exact ⟨hw, by show n ≤ _; omega⟩
    · rw [if_neg q] at h
      cases hq : zItem t s b with
      | error p => rw [hq] at h; cases h
      | ok z =>
        rw [hq] at h
        have h1 := zItem_W hw hb hq
        have h2 := zLandF_W k (n + 1) z.1 z.2 y h1.1 h1.2.2 h
        exact ⟨h2.1, by omega⟩
theorem zLandP_W {t : zTx} {y : Nat × zRd} (h : zLandP t = .ok y) : zRdW y.2 ∧ y.1 ≤ 300 := by
  have := zLandF_W 300 0 zRd0 0 y zRd0_W (Nat.zero_le _) h
  exact ⟨this.1, by omega⟩
def zLandOk (x : Int32) (u : zFi) (E : Nat) : Except Nat (Nat × zRd) → Prop
  | .ok y => x = nI y.1 ∧ zLandR u E y.2.1
  | .error p => x = -10 - nI p
set_option maxHeartbeats 4000000 in
set_option maxRecDepth 100000 in
theorem l_X4_readInto (G : zG) (d : Nat) (Q : zQ) {D E : Nat} {t : zTx} {ml : zFl} {mr : zFr} (hr : zRf mr D E) (htw : zTxW t) : ∀ (k n : Nat) (s : zRd) (b : Nat) (u : zFi), n + k = 300 → b ≤ t.1 → zTkR u t b → zSt9 u t E s (zTkE t b) → zRdW s → (∀ x w, zLandOk x w E (zLandF t k n s b) → zFrE E w u → Q (some (.int x)) w ml mr) → zE G (zRm (d + 7) 238 238) (zQm G 238 238 Q) yX4_readInto.cls yX4_readInto.name cX4_readInto 3 (some .int) 238 25 [.ref 1, .ref E, .int (nI n)] [] 238 u ml mr := by
  intro k
  induction k with
  | zero =>
    intro n s b u hn hb r0 h hw hQ
    have hE := hr.El.1
    have hK9 : zTkK t b < 5 := zTkK_lt
    refine e_iload_n 26 dX4_readInto_25 rfl rfl ?_
    refine e_sipush 29 hsi_300 dX4_readInto_26 rfl ?_
    refine e_icmp_geN 65 32 dX4_readInto_29 (by decide) rfl (by omega) (by omega) (fun h29 => ?_) (fun h29 => ?_)
    · refine e_iload_n 66 dX4_readInto_65 rfl rfl ?_
      refine e_ireturn .int dX4_readInto_66 rfl rfl ?_
      exact hQ _ u ⟨rfl, h.2.1.1⟩ (zFrE.r u)
    · exact absurd h29 (by omega)
  | succ k ih =>
    intro n s b u hn hb r0 h hw hQ
    have hE := hr.El.1
    have hK9 : zTkK t b < 5 := zTkK_lt
    refine e_iload_n 26 dX4_readInto_25 rfl rfl ?_
    refine e_sipush 29 hsi_300 dX4_readInto_26 rfl ?_
    refine e_icmp_geN 65 32 dX4_readInto_29 (by decide) rfl (by omega) (by omega) (fun h29 => ?_) (fun h29 => ?_)
    · exact absurd h29 (by omega)
    · refine e_aload_n 33 dX4_readInto_32 rfl rfl ?_
      refine e_geti 36 dX4_readInto_33 lf_X4_39 rfl rfl rfl (by decide) r0.1 ?_
      refine e_if_eqN 65 39 dX4_readInto_36 (by decide) rfl (by omega) (fun h36 => ?_) (fun h36 => ?_)
      · have eF : zLandF t (k + 1) n s b = .ok (n, s) := if_pos h36
        rw [eF] at hQ
        refine e_iload_n 66 dX4_readInto_65 rfl rfl ?_
        refine e_ireturn .int dX4_readInto_66 rfl rfl ?_
        exact hQ _ u ⟨rfl, h.2.1.1⟩ (zFrE.r u)
      · have eF : zLandF t (k + 1) n s b = (match zItem t s b with | .error p => .error p | .ok y => zLandF t k (n + 1) y.1 y.2) := if_neg (by omega)
        refine e_aload_n 40 dX4_readInto_39 rfl rfl ?_
        refine e_aload_n 41 dX4_readInto_40 rfl rfl ?_
        refine c_Vi 44 (ci := 4) dX4_readInto_41 (k_X4_readItem G hr htw hb r0 h hw) lm_X4_42 zi_yX4_readItem zs_yX4_readItem rfl rfl (by decide) rfl rfl rfl (Nat.le_of_ble_eq_true rfl) (Nat.le_of_ble_eq_true rfl) (Nat.le_of_ble_eq_true rfl) (by exact Nat.le_refl _) (by exact Nat.le_refl _) ?_
        rintro x1 u1 _ _ ⟨ok1, g1, rfl, rfl⟩
        refine e_if_ne 55 47 dX4_readInto_44 (by decide) rfl (fun h44 => ?_) (fun h44 => ?_)
        · obtain ⟨-, y, ey, s1⟩ := ok1.y h44
          have w1 := zItem_W hw hb ey
          rw [eF, ey] at hQ
          refine e_iinc 58 dX4_readInto_55 rfl (by decide) rfl (z_inc hii_1) (zst1_2 rfl) ?_
          refine e_aload_n 59 dX4_readInto_58 rfl rfl ?_
          refine c_Vv 62 (ci := 4) dX4_readInto_59 (k_X4_next G hr htw s1.1 s1.2.2.1 s1.2.2.2) lm_X4_36 zi_yX4_next zs_yX4_next rfl rfl (by decide) rfl rfl rfl (Nat.le_of_ble_eq_true rfl) (Nat.le_of_ble_eq_true rfl) (Nat.le_of_ble_eq_true rfl) (by exact Nat.le_refl _) (by exact Nat.le_refl _) ?_
          rintro u2 _ _ ⟨r2, f2, rfl, rfl⟩
          refine e_goto 25 dX4_readInto_62 (by decide) ?_
          exact ih (n + 1) y.1 y.2 u2 (by omega) s1.2.2.2 r2 (s1.q hE r2 f2) w1.1 (fun x w a1 a2 => hQ x w a1 ((a2.t f2.E).t g1))
        · have h44 : x1 = 0 := by first | exact h44 | exact Classical.not_not.mp h44
          obtain ⟨-, p, ep, s1⟩ := ok1.n h44
          rw [eF, ep] at hQ
          refine e_bipush 49 hbi_m10 dX4_readInto_47 rfl ?_
          refine e_aload_n 50 dX4_readInto_49 rfl rfl ?_
          refine e_geti 53 dX4_readInto_50 lf_X4_46 rfl rfl rfl (by decide) s1 ?_
          refine e_isub 54 dX4_readInto_53 rfl ?_
          refine e_ireturn .int dX4_readInto_54 rfl rfl ?_
          exact hQ _ u1 rfl g1
set_option maxHeartbeats 4000000 in
set_option maxRecDepth 100000 in
theorem k_X4_readInto (G : zG) {D E : Nat} {t : zTx} {ml : zFl} {mr : zFr} (hr : zRf mr D E) (htw : zTxW t) {mi : zFi} (hx : zXt mi t) : zMet G 7 yX4_readInto cX4_readInto 3 (some .int) [.ref 1, .ref E] 238 mi ml mr 238 (zPi fun x u b c => zLandOk x u E (zLandP t) ∧ zFrE E u mi ∧ b = ml ∧ c = mr) := by
  have hE := hr.El.1
  refine z_intro ([.ref 1, .ref E, zx]) (by decide) rfl (Nat.le_of_ble_eq_true rfl) ?_
  refine e_aload_n 1 dX4_readInto_0 rfl rfl ?_
  refine c_Vv 4 (ci := 0) dX4_readInto_1 (k_X0_reset G hr.dE) lm_X4_21 zi_yX0_reset zs_yX0_reset rfl hr.dE.k0 hr.dE.l0 rfl rfl rfl (Nat.le_of_ble_eq_true rfl) (Nat.le_of_ble_eq_true rfl) (Nat.le_of_ble_eq_true rfl) (by exact Nat.le_refl _) (by exact Nat.le_refl _) ?_
  rintro u1 _ _ ⟨l1, o1, rfl, rfl⟩
  refine e_aload_n 5 dX4_readInto_4 rfl rfl ?_
  refine e_iconst 6 hic_0 dX4_readInto_5 rfl ?_
  refine e_puti 9 dX4_readInto_6 lf_X4_26 rfl rfl rfl rfl rfl (by decide) ?_
  refine e_aload_n 10 dX4_readInto_9 rfl rfl ?_
  refine e_iconst 11 hic_0 dX4_readInto_10 rfl ?_
  refine e_puti 14 dX4_readInto_11 lf_X4_30 rfl rfl rfl rfl rfl (by decide) ?_
  refine e_aload_n 15 dX4_readInto_14 rfl rfl ?_
  refine e_iconst 16 hic_0 dX4_readInto_15 rfl ?_
  refine e_puti 19 dX4_readInto_16 lf_X4_33 rfl rfl rfl rfl rfl (by decide) ?_
  have s2 : zSt9 (zp (zp (zp u1 1 6 (nI 0)) 1 7 (nI 0)) 1 4 (nI 0)) t E zRd0 0 := ⟨⟨by rw [zp_k _ _ (by decide), zp_k _ _ (by decide), zp_k _ _ (by decide), o1 1 (by omega)]; exact hx.1, fun k hk => by rw [zp_r _ _ _ (by decide), zp_r _ _ _ (by decide), zp_r _ _ _ (by decide), o1 2 (by omega)]; exact hx.2 k hk⟩, ⟨l1.congr (fun j hj => by rw [zp_r _ _ _ (by omega), zp_r _ _ _ (by omega), zp_r _ _ _ (by omega)]), (zp_k _ _ (by decide)).trans ((zp_k _ _ (by decide)).trans (zp_s _ _ _ _)), (zp_k _ _ (by decide)).trans (zp_s _ _ _ _)⟩, zp_s _ _ _ _, Nat.zero_le _⟩
  have g2 : zFrE E (zp (zp (zp u1 1 6 (nI 0)) 1 7 (nI 0)) 1 4 (nI 0)) mi := (zFrE.p1 (by decide)).t ((zFrE.p1 (by decide)).t ((zFrE.p1 (by decide)).t (zFrE.l hE o1)))
  refine e_aload_n 20 dX4_readInto_19 rfl rfl ?_
  refine c_Vv 23 (ci := 4) dX4_readInto_20 (k_X4_next G hr htw s2.1 s2.2.2.1 s2.2.2.2) lm_X4_36 zi_yX4_next zs_yX4_next rfl rfl (by decide) rfl rfl rfl (Nat.le_of_ble_eq_true rfl) (Nat.le_of_ble_eq_true rfl) (Nat.le_of_ble_eq_true rfl) (by exact Nat.le_refl _) (by exact Nat.le_refl _) ?_
  rintro u3 _ _ ⟨r3, f3, rfl, rfl⟩
  refine e_iconst 24 hic_0 dX4_readInto_23 rfl ?_
  refine e_istore_n 25 dX4_readInto_24 rfl (by decide) (zst1_2 rfl) ?_
  exact l_X4_readInto G _ _ hr htw 300 0 zRd0 0 u3 rfl (Nat.zero_le _) r3 (s2.q hE r3 f3) zRd0_W (fun x w a1 a2 => ⟨x, rfl, a1, (a2.t f3.E).t g2, rfl, rfl⟩)

