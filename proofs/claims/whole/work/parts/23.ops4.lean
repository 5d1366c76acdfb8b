/-- a song at once: the songs with it, the word's life as it then is -/
def zSung (Λ : zLd) (m : zMo) (w p g : Nat) : zMo := (m.1, m.2.1, zSongAdd m.2.2.1 m.1 w p g, zu m.2.2.2 w (zNote (Λ 0 0) m.1 (zRaise p 13 19 (10 * g) (m.2.2.2 w).1) (m.2.2.2 w).2.1 (m.2.2.2 w).2.2))
theorem zSongAdd_0 {S : zLd} {y w p g : Nat} : zSongAdd S y w p g 0 0 = S 0 0 + 1 := by simp [zSongAdd, zu]
theorem zSongAdd_W {P W y w p g : Nat} {S : zLd} (h : zSongW P W S) (hn : S 0 0 < 10) (hy : y ≤ 99) (hw : w < W) (hp : p < P) (hg : 1 ≤ g ∧ g ≤ 99) : zSongW P W (zSongAdd S y w p g) := by
  refine ⟨by rw [zSongAdd_0]; omega, fun i hi => ?_⟩
  rw [zSongAdd_0] at hi
  by_cases e : i = S 0 0
  · subst e
    simp [zSongAdd, zu]
    omega
  · have h4 := h.2 i (by omega)
    simpa [zSongAdd, zu, e] using h4
theorem zSung_W {Λ : zLd} {m : zMo} {w p g : Nat} (hW : zLandW Λ) (h : zMoW Λ m) (hn : m.2.2.1 0 0 < 10) (hw : w < Λ 0 1) (hp : p < Λ 0 0) (hg : 1 ≤ g ∧ g ≤ 99) : zMoW Λ (zSung Λ m w p g) := by
  refine ⟨h.1, zSongAdd_W h.2.1 hn h.1 hw hp hg, fun v hv => ?_⟩
  show zStW _ _ (zu _ _ _ v) ∧ zFine _ _ (zu _ _ _ v)
  by_cases e : v = w
  · subst e
    rw [zu_s]
    exact ⟨zNote_W (zRaise_le (by omega) (h.2.2 v hv).1.1) (fun t ht => by have ht2 : t ≤ m.1 := ht; omega) (fun p hp t ht => (h.2.2 v hv).1.2.1 p hp t (by omega)) (fun t ht => (h.2.2 v hv).1.2.2 t (by omega)), zNote_fine⟩
  · rw [zu_n _ _ e]
    exact h.2.2 v hv
def sSongOk (Λ : zLd) (w p g : Int32) : Prop := vN w (Λ 0 1) ∧ vN p (Λ 0 0) ∧ vR g 1 99
def sSongOk_dec (Λ : zLd) (w p g : Int32) : Decidable (sSongOk Λ w p g) := by unfold sSongOk; exact @instDecidableAnd _ _ (vN_dec _ _) (@instDecidableAnd _ _ (vN_dec _ _) (vR_dec _ _ _))
def sSong (Λ : zLd) (m : zMo) (w p g : Int32) : Int32 := @ite _ (sSongOk Λ w p g) (sSongOk_dec Λ w p g) (if Λ 3 (zK w) ≤ m.1 then (if m.2.2.1 0 0 < 10 then nI (m.2.2.1 0 0 + 1) else -3) else -2) (-1)
def sSongM (Λ : zLd) (m : zMo) (w p g : Int32) : zMo := @ite _ (sSongOk Λ w p g) (sSongOk_dec Λ w p g) (if Λ 3 (zK w) ≤ m.1 then (if m.2.2.1 0 0 < 10 then zSung Λ m (zK w) (zK p) (zK g) else m) else m) m
theorem sSongM_W {Λ : zLd} {m : zMo} {w p g : Int32} (hW : zLandW Λ) (h : zMoW Λ m) : zMoW Λ (sSongM Λ m w p g) := by
  unfold sSongM
  by_cases q : sSongOk Λ w p g
  · rw [iteP q]
    split
    · split
      · exact zSung_W hW h (by assumption) q.1.nat.2 q.2.1.nat.2 q.2.2.nat.2
      · exact h
    · exact h
  · rw [iteN q]; exact h
set_option maxHeartbeats 4000000 in
set_option maxRecDepth 100000 in
theorem k_X7_song (G : zG) {D E : Nat} {Λ : zLd} {late : Nat} {tr : Int64} {t : zTx} {m : zMo} {im : Nat → Nat × zMo} {l : zLt} {r : zWr} {mi : zFi} {ml : zFl} {mr : zFr} (hr : zRf mr D E) (hX : zX mi ml D Λ late tr t m im l r) (hF : zWf Λ late t m im l r) {w p g : Int32} : zMet G 3 yX7_song cX7_song 4 (some .int) [.ref 0, .int w, .int p, .int g] 238 mi ml mr 238 (zPi fun x a b c => x = sSong Λ m w p g ∧ zX a b D Λ late tr t (sSongM Λ m w p g) im l r ∧ (∀ q, 224 ≤ q → a q = mi q) ∧ b = ml ∧ c = mr) := by
  obtain ⟨hΛ, hlate, htr, ht, hm, him, hl, hw, hn72⟩ := id hX
  obtain ⟨hW, hla30, htw, hmw, himw, hlw, hrw⟩ := id hF
  have hP3 := hW.1.1
  have hW5 := hW.1.2.1
  have hy99 := hmw.1
  have hD9 := hr.Dl
  refine z_intro ([.ref 0, .int w, .int p, .int g]) (by decide) rfl (Nat.le_of_ble_eq_true rfl) ?_
  refine e_aload_n 1 dX7_song_0 rfl rfl ?_
  refine e_iload_n 2 dX7_song_1 rfl rfl ?_
  refine c_Vqi 5 (ci := 7) dX7_song_2 (k_X7_isWord G hr hΛ hW) lm_X7_126 zi_yX7_isWord zs_yX7_isWord rfl (by first | rfl | assumption) (by first | decide | omega) rfl rfl rfl (Nat.le_of_ble_eq_true rfl) (Nat.le_of_ble_eq_true rfl) (Nat.le_of_ble_eq_true rfl) (Nat.le_refl _) (Nat.le_refl _) ?_
  refine e_if_eq 26 8 dX7_song_5 (by decide) rfl (fun h5 => ?_) (fun h5 => ?_)
  · have h5 := zB_0 h5
    refine e_iconst 27 hic_m1 dX7_song_26 rfl ?_
    refine e_ireturn .int dX7_song_27 rfl rfl ?_
    have hno : ¬ sSongOk Λ w p g := fun q => by first | exact h5 q.1 | exact h13 q.2.1 | exact h23 q.2.2
    have e1 : sSong Λ m w p g = -1 := iteN hno
    have e2 : sSongM Λ m w p g = m := iteN hno
    rw [e1, e2]
    exact ⟨_, rfl, rfl, hX, fun _ _ => rfl, rfl, rfl⟩
  · have h5 := zB_1 h5
    obtain ⟨ew, hw9⟩ := h5.nat
    refine e_aload_n 9 dX7_song_8 rfl rfl ?_
    refine e_iload_n 10 dX7_song_9 rfl rfl ?_
    refine c_Vqi 13 (ci := 7) dX7_song_10 (k_X7_isPlace G hr hΛ hW) lm_X7_118 zi_yX7_isPlace zs_yX7_isPlace rfl (by first | rfl | assumption) (by first | decide | omega) rfl rfl rfl (Nat.le_of_ble_eq_true rfl) (Nat.le_of_ble_eq_true rfl) (Nat.le_of_ble_eq_true rfl) (Nat.le_refl _) (Nat.le_refl _) ?_
    refine e_if_eq 26 16 dX7_song_13 (by decide) rfl (fun h13 => ?_) (fun h13 => ?_)
    · have h13 := zB_0 h13
      refine e_iconst 27 hic_m1 dX7_song_26 rfl ?_
      refine e_ireturn .int dX7_song_27 rfl rfl ?_
      have hno : ¬ sSongOk Λ w p g := fun q => by first | exact h5 q.1 | exact h13 q.2.1 | exact h23 q.2.2
      have e1 : sSong Λ m w p g = -1 := iteN hno
      have e2 : sSongM Λ m w p g = m := iteN hno
      rw [e1, e2]
      exact ⟨_, rfl, rfl, hX, fun _ _ => rfl, rfl, rfl⟩
    · have h13 := zB_1 h13
      obtain ⟨ep, hp9⟩ := h13.nat
      refine e_iload_n 17 dX7_song_16 rfl rfl ?_
      refine e_iconst 18 hic_1 dX7_song_17 rfl ?_
      refine e_bipush 20 hbi_99 dX7_song_18 rfl ?_
      refine c_Sqi 23 dX7_song_20 (k_X7_btw G (by decide) (by decide)) lm_X7_80 zt_yX7_between rfl rfl rfl (Nat.le_of_ble_eq_true rfl) (Nat.le_of_ble_eq_true rfl) (Nat.le_of_ble_eq_true rfl) (Nat.le_refl _) (Nat.le_refl _) ?_
      refine e_if_ne 28 26 dX7_song_23 (by decide) rfl (fun h23 => ?_) (fun h23 => ?_)
      · have h23 := zB_1 h23
        obtain ⟨eg, hg9⟩ := h23.nat
        have e1 : sSong Λ m w p g = (if Λ 3 (zK w) ≤ m.1 then (if m.2.2.1 0 0 < 10 then nI (m.2.2.1 0 0 + 1) else -3) else -2) := iteP ⟨h5, h13, h23⟩
        have e2 : sSongM Λ m w p g = (if Λ 3 (zK w) ≤ m.1 then (if m.2.2.1 0 0 < 10 then zSung Λ m (zK w) (zK p) (zK g) else m) else m) := iteP ⟨h5, h13, h23⟩
        rw [e1, e2]
        clear e1 e2 h5 h13 h23
        generalize zK w = w9 at ew hw9 ⊢
        generalize zK p = p9 at ep hp9 ⊢
        generalize zK g = g9 at eg hg9 ⊢
        subst ew ep eg
        refine e_aload_n 29 dX7_song_28 rfl rfl ?_
        refine e_iload_n 30 dX7_song_29 rfl rfl ?_
        refine c_Vqi 33 (ci := 7) dX7_song_30 (k_X7_isCoined G hr hΛ hW hw9 hm.1 hy99) lm_X7_142 zi_yX7_isCoined zs_yX7_isCoined rfl (by first | rfl | assumption) (by first | decide | omega) rfl rfl rfl (Nat.le_of_ble_eq_true rfl) (Nat.le_of_ble_eq_true rfl) (Nat.le_of_ble_eq_true rfl) (Nat.le_refl _) (Nat.le_refl _) ?_
        refine e_if_ne 39 36 dX7_song_33 (by decide) rfl (fun h33 => ?_) (fun h33 => ?_)
        · have h33 := zB_1 h33
          rw [if_pos h33, if_pos h33]
          refine e_aload_n 40 dX7_song_39 rfl rfl ?_
          refine e_getr 43 dX7_song_40 lf_X7_19 rfl rfl rfl (by decide) hr.now ?_
          refine e_getr 46 dX7_song_43 lf_X7_173 rfl rfl rfl (by decide) hr.m3.r2 ?_
          refine e_geti 49 dX7_song_46 lf_X7_176 rfl rfl rfl (by decide) hm.2.2.1.1 ?_
          refine e_bipush 51 hbi_10 dX7_song_49 rfl ?_
          refine e_icmp_ltN 57 54 dX7_song_51 (by decide) rfl (by have := hmw.2.1.1; omega) (by decide) (fun h51 => ?_) (fun h51 => ?_)
          · rw [if_pos h51, if_pos h51]
            refine e_aload_n 58 dX7_song_57 rfl rfl ?_
            refine e_getr 61 dX7_song_58 lf_X7_19 rfl rfl rfl (by decide) hr.now ?_
            refine e_getr 64 dX7_song_61 lf_X7_173 rfl rfl rfl (by decide) hr.m3.r2 ?_
            refine e_aload_n 65 dX7_song_64 rfl rfl ?_
            refine e_getr 68 dX7_song_65 lf_X7_19 rfl rfl rfl (by decide) hr.now ?_
            refine e_geti 71 dX7_song_68 lf_X7_145 rfl rfl rfl (by decide) hm.1 ?_
            refine e_iload_n 72 dX7_song_71 rfl rfl ?_
            refine e_iload_n 73 dX7_song_72 rfl rfl ?_
            refine e_iload_n 74 dX7_song_73 rfl rfl ?_
            refine c_Vv 77 (ci := 5) dX7_song_74 (k_X5_add G hr.m3.sg hm.2.2.1 h51) lm_X7_177 zi_yX5_add zs_yX5_add rfl (by first | rfl | assumption) (by first | decide | omega) rfl rfl rfl (Nat.le_of_ble_eq_true rfl) (Nat.le_of_ble_eq_true rfl) (Nat.le_of_ble_eq_true rfl) (Nat.le_refl _) (Nat.le_refl _) ?_
            rintro a1 _ _ ⟨o1, s1, rfl, rfl⟩
            have hl0 := (hm.2.2.2 w9 hw9)
            have hL := hr.m3.lf (w := w9) (by omega)
            refine e_aload_n 78 dX7_song_77 rfl rfl ?_
            refine e_getr 81 dX7_song_78 lf_X7_19 rfl rfl rfl (by decide) hr.now ?_
            refine e_getr 84 dX7_song_81 lf_X7_159 rfl rfl rfl (by decide) hr.m3.r3 ?_
            refine e_iload_n 85 dX7_song_84 rfl rfl ?_
            refine e_aald 86 dX7_song_85 rfl hr.m3.k6 hr.m3.l6 rfl (hr.m3.n6 (by omega)) (hr.m3.lv (by omega)) ?_
            refine e_iload_n 87 dX7_song_86 rfl rfl ?_
            refine e_bipush 89 hbi_13 dX7_song_87 rfl ?_
            refine e_bipush 91 hbi_19 dX7_song_89 rfl ?_
            refine e_bipush 93 hbi_10 dX7_song_91 rfl ?_
            refine e_iload_n 94 dX7_song_93 rfl rfl ?_
            first | refine e_imulN 95 dX7_song_94 rfl ?_ | refine e_imul 95 dX7_song_94 rfl ?_
            refine c_Vv 98 (ci := 2) dX7_song_95 (k_X2_raise G hL (by omega) (by decide) (by decide) (by decide) (by omega) ((hmw.2.2 w9 hw9).1.1 p9 hp9) (fun a h1 h2 => by rw [o1 _ (by omega)]; exact hl0.1 p9 hp9 a h1 h2)) lm_X7_181 zi_yX2_raise zs_yX2_raise rfl hL.k0 hL.l0 rfl rfl rfl (Nat.le_of_ble_eq_true rfl) (Nat.le_of_ble_eq_true rfl) (Nat.le_of_ble_eq_true rfl) (Nat.le_refl _) (Nat.le_refl _) ?_
            rintro a2 _ _ ⟨o2, r2, rfl, rfl⟩
            have hR2 : zRows (3 + 7 + 11 * w9) (Λ 0 0) (zRaise p9 13 19 (10 * g9) (m.2.2.2 w9).1) a2 := zRows_raise (mi := a1) (fun q hq a h1 h2 => by rw [o1 _ (by omega)]; exact hl0.1 q hq a h1 h2) o2 r2
            have hle2 := zRaise_le (N := Λ 0 0) (p := p9) (a1 := 13) (a2 := 19) (v := 10 * g9) (by omega) (hmw.2.2 w9 hw9).1.1
            refine e_aload_n 99 dX7_song_98 rfl rfl ?_
            refine e_getr 102 dX7_song_99 lf_X7_19 rfl rfl rfl (by decide) hr.now ?_
            refine e_getr 105 dX7_song_102 lf_X7_159 rfl rfl rfl (by decide) hr.m3.r3 ?_
            refine e_iload_n 106 dX7_song_105 rfl rfl ?_
            refine e_aald 107 dX7_song_106 rfl hr.m3.k6 hr.m3.l6 rfl (hr.m3.n6 (by omega)) (hr.m3.lv (by omega)) ?_
            refine e_aload_n 108 dX7_song_107 rfl rfl ?_
            refine e_getr 111 dX7_song_108 lf_X7_62 rfl rfl rfl (by decide) hr.land ?_
            refine e_geti (v := nI (Λ 0 0)) 114 dX7_song_111 lf_X7_184 rfl rfl hr.dD.k0 hr.dD.l0 (by rw [o2 _ (by omega), o1 _ (by omega)]; exact hΛ.f0) ?_
            refine e_aload_n 115 dX7_song_114 rfl rfl ?_
            refine e_getr 118 dX7_song_115 lf_X7_19 rfl rfl rfl (by decide) hr.now ?_
            refine e_geti (v := nI m.1) 121 dX7_song_118 lf_X7_145 rfl rfl rfl (by decide) (by rw [o2 _ (by omega), o1 _ (by omega)]; exact hm.1) ?_
            refine c_Vv 124 (ci := 2) dX7_song_121 (k_X2_note G hL hP3 (by omega) hR2 hle2) lm_X7_187 zi_yX2_note zs_yX2_note rfl hL.k0 hL.l0 rfl rfl rfl (Nat.le_of_ble_eq_true rfl) (Nat.le_of_ble_eq_true rfl) (Nat.le_of_ble_eq_true rfl) (Nat.le_refl _) (Nat.le_refl _) ?_
            rintro a3 _ _ ⟨n3, rfl, rfl⟩
            refine e_aload_n 125 dX7_song_124 rfl rfl ?_
            refine e_getr 128 dX7_song_125 lf_X7_19 rfl rfl rfl (by decide) hr.now ?_
            refine e_getr 131 dX7_song_128 lf_X7_173 rfl rfl rfl (by decide) hr.m3.r2 ?_
            refine e_geti (v := nI (m.2.2.1 0 0 + 1)) 134 dX7_song_131 lf_X7_176 rfl rfl rfl (by decide) (by rw [n3.1 _ (by omega), o2 _ (by omega), s1.1, zSongAdd_0]) ?_
            refine e_ireturn .int dX7_song_134 rfl rfl ?_
            have hfar : ∀ q, q < 3 ∨ 65 ≤ q → a3 q = mi q := fun q hq => by rw [n3.1 _ (by omega), o2 _ (by omega), o1 _ (by omega)]
            refine ⟨_, rfl, rfl, hX.mom hW (by omega) hfar ⟨?_, ?_, ?_, fun v hv => ?_⟩, fun q hq => hfar q (by omega), rfl, rfl⟩
            · rw [n3.1 _ (by omega), o2 _ (by omega), o1 _ (by omega)]; exact hm.1
            · rw [n3.1 _ (by omega), o2 _ (by omega), o1 _ (by omega)]; exact hm.2.1
            · exact s1.congr (fun j hj => by rw [n3.1 _ (by omega), o2 _ (by omega)])
            · show zLifeR a3 _ _ _ (zu _ _ _ v)
              by_cases e : v = w9
              · subst e
                rw [zu_s]
                exact zNoted_R hR2 hP3 (fun t ht => by have ht2 : t ≤ m.1 := ht; omega) (fun p hp t ht => by rw [o2 _ (by omega), o1 _ (by omega)]; exact hl0.2.1 p hp t (by omega)) (fun t ht => by rw [o2 _ (by omega), o1 _ (by omega)]; exact hl0.2.2.1 t (by omega)) (fun t ht => by rw [o2 _ (by omega), o1 _ (by omega)]; exact hl0.2.2.2 t (by omega)) n3
              · rw [zu_n _ _ e]
                exact (hm.2.2.2 v hv).congr hP3 (fun q h1 h2 => by rw [n3.1 _ (by omega), o2 _ (by omega), o1 _ (by omega)])
          · rw [if_neg (by omega), if_neg (by omega)]
            refine e_bipush 56 hbi_m3 dX7_song_54 rfl ?_
            refine e_ireturn .int dX7_song_56 rfl rfl ?_
            exact ⟨_, rfl, rfl, hX, fun _ _ => rfl, rfl, rfl⟩
        · have h33 := zB_0 h33
          rw [if_neg h33, if_neg h33]
          refine e_bipush 38 hbi_m2 dX7_song_36 rfl ?_
          refine e_ireturn .int dX7_song_38 rfl rfl ?_
          exact ⟨_, rfl, rfl, hX, fun _ _ => rfl, rfl, rfl⟩
      · have h23 := zB_0 h23
        refine e_iconst 27 hic_m1 dX7_song_26 rfl ?_
        refine e_ireturn .int dX7_song_27 rfl rfl ?_
        have hno : ¬ sSongOk Λ w p g := fun q => by first | exact h5 q.1 | exact h13 q.2.1 | exact h23 q.2.2
        have e1 : sSong Λ m w p g = -1 := iteN hno
        have e2 : sSongM Λ m w p g = m := iteN hno
        rw [e1, e2]
        exact ⟨_, rfl, rfl, hX, fun _ _ => rfl, rfl, rfl⟩

