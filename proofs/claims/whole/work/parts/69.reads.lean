theorem zSq.fr {u v : zFi} {t : zTx} {r : Except Nat Nat} (h : zSq v t r) (e : ∀ k, 8 ≤ k → k ≤ 12 → u 224 k = v 224 k) : zSq u t r := by
  cases r with
  | error p => exact ⟨(e 12 (by decide) (by decide)).trans h.1, h.2⟩
  | ok b => exact ⟨(e 12 (by decide) (by decide)).trans h.1, ⟨(e 8 (by decide) (by decide)).trans h.2.1.1, (e 10 (by decide) (by decide)).trans h.2.1.2.1, (e 9 (by decide) (by decide)).trans h.2.1.2.2.1, fun z => (e 11 (by decide) (by decide)).trans (h.2.1.2.2.2.1 z), fun z => (e 11 (by decide) (by decide)).trans (h.2.1.2.2.2.2 z)⟩, h.2.2⟩
theorem zSq.p4 {v : zFi} {t : zTx} {r : Except Nat Nat} {k : Nat} {x : Int32} (h : zSq v t r) (hk : 12 < k) : zSq (zp v 224 k x) t r := h.fr (fun j g1 g2 => zp_k _ _ (by omega))
theorem zSq.po {v : zFi} {t : zTx} {r : Except Nat Nat} {q k : Nat} {x : Int32} (h : zSq v t r) (hq : (224 : Nat) ≠ q) : zSq (zp v q k x) t r := h.fr (fun j g1 g2 => congrFun (zp_r _ _ _ hq) j)
/-- an item is read as far as its end -/
def zSd (u : zFi) (t : zTx) : Except Nat (zRd × Nat) → Prop
  | .ok y => zSq u t (.ok y.2) ∧ zYdr u y.1
  | .error p => zSq u t (.error p)
def zX0 (s : zRd) (e : Nat) : Except Nat (zRd × Nat) := .ok ((zSetF s.1 0 (s.1 0 0 + 1), s.2), e)
def zX1 (t : zTx) (s : zRd) (e : Nat) : Except Nat (zRd × Nat) := zNeed t 0 (s.1 0 0) e fun x =>
  if (zTkK t (zTkE t e) = 3 ∧ 0 ≤ zTkN t (zTkE t e) ∧ zTkN t (zTkE t e) < s.1 0 0) ∧ ¬ zTkN t (zTkE t e) = x then zNeed t 0 10 (zTkE t (zTkE t e)) fun v => .ok ((zSetN s.1 x (zTkN t (zTkE t e)) v, s.2), zTkE t (zTkE t (zTkE t e))) else .error (zTkA t (zTkE t e))
def zX2 (t : zTx) (s : zRd) (e : Nat) : Except Nat (zRd × Nat) := zNeed t 0 10 e fun x => zNeed t 0 10 (zTkE t e) fun y => zNeed t 0 10 (zTkE t (zTkE t e)) fun z => .ok ((zSetF (zSetF (zSetF s.1 2 x) 3 y) 4 z, 1, s.2.2), zTkE t (zTkE t (zTkE t e)))
def zX3 (t : zTx) (s : zRd) (e : Nat) : Except Nat (zRd × Nat) := zNeed t 1 100 e fun x => .ok ((zSetF s.1 5 x, s.2.1, 1), zTkE t e)
def zX4 (t : zTx) (s : zRd) (e : Nat) : Except Nat (zRd × Nat) := zNeed t 0 4 e fun x => zNeed t 0 91 (zTkE t e) fun y => zNeed t 0 (s.1 0 0) (zTkE t (zTkE t e)) fun g => .ok ((zAddW s.1 x y g (zPlV t (zTkE t (zTkE t (zTkE t e)))), s.2), zPlB t (zTkE t (zTkE t (zTkE t e))))
theorem zNx_y {t : zTx} {lo hi b : Nat} (h : zNc9 t lo hi b) : zNx t lo hi (.ok b) = .ok (zTkE t b) := iteP h
theorem zNx_n {t : zTx} {lo hi b : Nat} (h : ¬ zNc9 t lo hi b) : zNx t lo hi (.ok b) = .error (zTkA t b) := iteN h
theorem zNx_e {t : zTx} {lo hi p : Nat} : zNx t lo hi (.error p) = .error p := rfl
theorem zNv_y {t : zTx} {lo hi b : Nat} (h : zNc9 t lo hi b) : zNv t lo hi (.ok b) = zTkN t b := iteP h
theorem zSd_law {u : zFi} {t : zTx} {s : zRd} {e : Nat} (h : zSq u t (zNx t 0 10 (zNx t 0 10 (zNx t 0 10 (.ok e))))) (hd : zYdr u (zSetF (zSetF (zSetF s.1 2 (zNv t 0 10 (.ok e))) 3 (zNv t 0 10 (zNx t 0 10 (.ok e)))) 4 (zNv t 0 10 (zNx t 0 10 (zNx t 0 10 (.ok e)))), 1, s.2.2)) : zSd u t (zX2 t s e) := by
  unfold zX2
  by_cases c1 : zNc9 t 0 10 e
  · rw [zNx_y c1] at h hd
    rw [zNv_y c1] at hd
    rw [zNeed_y c1]
    by_cases c2 : zNc9 t 0 10 (zTkE t e)
    · rw [zNx_y c2] at h hd
      rw [zNv_y c2] at hd
      rw [zNeed_y c2]
      by_cases c3 : zNc9 t 0 10 (zTkE t (zTkE t e))
      · rw [zNx_y c3] at h
        rw [zNv_y c3] at hd
        rw [zNeed_y c3]
        exact ⟨h, hd⟩
      · rw [zNx_n c3] at h
        rw [zNeed_n c3]
        exact h
    · rw [zNx_n c2, zNx_e] at h
      rw [zNeed_n c2]
      exact h
  · rw [zNx_n c1, zNx_e, zNx_e] at h
    rw [zNeed_n c1]
    exact h
theorem zSd_start {u : zFi} {t : zTx} {s : zRd} {e : Nat} (h : zSq u t (zNx t 1 100 (.ok e))) (hd : zYdr u (zSetF s.1 5 (zNv t 1 100 (.ok e)), s.2.1, 1)) : zSd u t (zX3 t s e) := by
  unfold zX3
  by_cases c1 : zNc9 t 1 100 e
  · rw [zNx_y c1] at h
    rw [zNv_y c1] at hd
    rw [zNeed_y c1]
    exact ⟨h, hd⟩
  · rw [zNx_n c1] at h
    rw [zNeed_n c1]
    exact h
theorem zSd_wordE {u : zFi} {t : zTx} {s : zRd} {e p : Nat} (er : zNx t 0 (s.1 0 0) (zNx t 0 91 (zNx t 0 4 (.ok e))) = .error p) (h : zSq u t (.error p)) : zSd u t (zX4 t s e) := by
  unfold zX4
  by_cases c1 : zNc9 t 0 4 e
  · rw [zNx_y c1] at er
    rw [zNeed_y c1]
    by_cases c2 : zNc9 t 0 91 (zTkE t e)
    · rw [zNx_y c2] at er
      rw [zNeed_y c2]
      by_cases c3 : zNc9 t 0 (s.1 0 0) (zTkE t (zTkE t e))
      · rw [zNx_y c3] at er; cases er
      · rw [zNx_n c3] at er
        rw [zNeed_n c3]
        cases er; exact h
    · rw [zNx_n c2, zNx_e] at er
      rw [zNeed_n c2]
      cases er; exact h
  · rw [zNx_n c1, zNx_e, zNx_e] at er
    rw [zNeed_n c1]
    cases er; exact h
theorem zSd_wordO {u : zFi} {t : zTx} {s : zRd} {e b : Nat} (er : zNx t 0 (s.1 0 0) (zNx t 0 91 (zNx t 0 4 (.ok e))) = .ok b) (h : zSq u t (.ok (zPlB t b))) (hd : zYdr u (zAddW s.1 (zNv t 0 4 (.ok e)) (zNv t 0 91 (zNx t 0 4 (.ok e))) (zNv t 0 (s.1 0 0) (zNx t 0 91 (zNx t 0 4 (.ok e)))) (zPlV t b), s.2)) : zSd u t (zX4 t s e) := by
  unfold zX4
  by_cases c1 : zNc9 t 0 4 e
  · rw [zNx_y c1] at er hd
    rw [zNv_y c1] at hd
    rw [zNeed_y c1]
    by_cases c2 : zNc9 t 0 91 (zTkE t e)
    · rw [zNx_y c2] at er hd
      rw [zNv_y c2] at hd
      rw [zNeed_y c2]
      by_cases c3 : zNc9 t 0 (s.1 0 0) (zTkE t (zTkE t e))
      · rw [zNx_y c3] at er
        rw [zNv_y c3] at hd
        rw [zNeed_y c3]
        cases er; exact ⟨h, hd⟩
      · rw [zNx_n c3] at er; cases er
    · rw [zNx_n c2, zNx_e] at er; cases er
  · rw [zNx_n c1, zNx_e, zNx_e] at er; cases er
theorem zSd_near0 {u : zFi} {t : zTx} {s : zRd} {e : Nat} (c1 : ¬ zNc9 t 0 (s.1 0 0) e) (h : zSq u t (.error (zTkA t e))) : zSd u t (zX1 t s e) := by
  unfold zX1
  rw [zNeed_n c1]
  exact h
theorem zSd_near1 {u : zFi} {t : zTx} {s : zRd} {e : Nat} (c1 : zNc9 t 0 (s.1 0 0) e) (c2 : ¬ (zNc9 t 0 (s.1 0 0) (zTkE t e) ∧ ¬ zTkN t (zTkE t e) = zTkN t e)) (h : zSq u t (.error (zTkA t (zTkE t e)))) : zSd u t (zX1 t s e) := by
  unfold zX1
  rw [zNeed_y c1, if_neg (show ¬ ((zTkK t (zTkE t e) = 3 ∧ 0 ≤ zTkN t (zTkE t e) ∧ zTkN t (zTkE t e) < s.1 0 0) ∧ ¬ zTkN t (zTkE t e) = zTkN t e) from c2)]
  exact h
theorem zSd_near2 {u : zFi} {t : zTx} {s : zRd} {e : Nat} (c1 : zNc9 t 0 (s.1 0 0) e) (c2 : zNc9 t 0 (s.1 0 0) (zTkE t e) ∧ ¬ zTkN t (zTkE t e) = zTkN t e) (c3 : ¬ zNc9 t 0 10 (zTkE t (zTkE t e))) (h : zSq u t (.error (zTkA t (zTkE t (zTkE t e))))) : zSd u t (zX1 t s e) := by
  unfold zX1
  rw [zNeed_y c1, if_pos (show ((zTkK t (zTkE t e) = 3 ∧ 0 ≤ zTkN t (zTkE t e) ∧ zTkN t (zTkE t e) < s.1 0 0) ∧ ¬ zTkN t (zTkE t e) = zTkN t e) from c2), zNeed_n c3]
  exact h
theorem zSd_near3 {u : zFi} {t : zTx} {s : zRd} {e : Nat} (c1 : zNc9 t 0 (s.1 0 0) e) (c2 : zNc9 t 0 (s.1 0 0) (zTkE t e) ∧ ¬ zTkN t (zTkE t e) = zTkN t e) (c3 : zNc9 t 0 10 (zTkE t (zTkE t e))) (h : zSq u t (.ok (zTkE t (zTkE t (zTkE t e))))) (hd : zYdr u (zSetN s.1 (zTkN t e) (zTkN t (zTkE t e)) (zTkN t (zTkE t (zTkE t e))), s.2)) : zSd u t (zX1 t s e) := by
  unfold zX1
  rw [zNeed_y c1, if_pos (show ((zTkK t (zTkE t e) = 3 ∧ 0 ≤ zTkN t (zTkE t e) ∧ zTkN t (zTkE t e) < s.1 0 0) ∧ ¬ zTkN t (zTkE t e) = zTkN t e) from c2), zNeed_y c3]
  exact ⟨h, hd⟩
theorem zNv9_le {t : zTx} {lo hi : Nat} {r : Except Nat Nat} : zNv t lo hi r ≤ 99 := by
  cases r with
  | error p => exact Nat.zero_le _
  | ok b =>
    by_cases c : zNc9 t lo hi b
    · rw [zNv_y c]; exact (zTkN_ok c.1).2
    · rw [show zNv t lo hi (.ok b) = 0 from iteN c]; exact Nat.zero_le _
set_option maxHeartbeats 4000000 in
set_option maxRecDepth 100000 in
theorem k_X8_readsItem_0 (G : zG) {D E : Nat} {t : zTx} {mi : zFi} {ml : zFl} {mr : zFr} (hr : zRf mr D E) (htw : zTxW t) (ht : zYt mi t) {s : zRd} {e : Nat} (h : zSq mi t (.ok e)) (hd : zYdr mi s) (hw : zRdW s) : zMet G 6 yX8_readsItem cX8_readsItem 5 none [.ref 224, .int (nI 0)] 238 mi ml mr 238 (zPv fun u b c => (zSd u t (zX0 s e) ∧ zFrR u mi) ∧ b = ml ∧ c = mr) := by
  have hP3 := hw.1.1.1
  have hW5 := hw.1.1.2.1
  refine z_intro ([.ref 224, .int (nI 0), zx, zx, zx]) (by decide) rfl (Nat.le_of_ble_eq_true rfl) ?_
  refine e_iload_n 1 dX8_readsItem_0 rfl rfl ?_
  refine e_if_neN 17 4 dX8_readsItem_1 (by decide) rfl (by decide) (fun h1 => ?_) (fun h1 => ?_)
  · exact absurd h1 (by decide)
  · refine e_aload_n 5 dX8_readsItem_4 rfl rfl ?_
    refine e_dup 6 dX8_readsItem_5 rfl rfl ?_
    refine e_geti 9 dX8_readsItem_6 lf_X8_113 rfl rfl rfl (by decide) hd.1.1 ?_
    refine e_iconst 10 hic_1 dX8_readsItem_9 rfl ?_
    first | refine e_iaddN 11 dX8_readsItem_10 rfl ?_ | refine e_iadd 11 dX8_readsItem_10 rfl ?_
    refine e_puti 14 dX8_readsItem_11 lf_X8_113 rfl rfl rfl rfl rfl (by decide) ?_
    refine e_goto 318 dX8_readsItem_14 (by decide) ?_
    refine e_vreturn dX8_readsItem_318 rfl ?_
    exact ⟨rfl, ⟨⟨h.p4 (by decide), hd.p18⟩, zFrR.p224 (by decide)⟩, rfl, rfl⟩

set_option maxHeartbeats 4000000 in
set_option maxRecDepth 100000 in
theorem k_X8_readsItem_2 (G : zG) {D E : Nat} {t : zTx} {mi : zFi} {ml : zFl} {mr : zFr} (hr : zRf mr D E) (htw : zTxW t) (ht : zYt mi t) {s : zRd} {e : Nat} (h : zSq mi t (.ok e)) (hd : zYdr mi s) (hw : zRdW s) : zMet G 6 yX8_readsItem cX8_readsItem 5 none [.ref 224, .int (nI 2)] 238 mi ml mr 238 (zPv fun u b c => (zSd u t (zX2 t s e) ∧ zFrR u mi) ∧ b = ml ∧ c = mr) := by
  have hP3 := hw.1.1.1
  have hW5 := hw.1.1.2.1
  refine z_intro ([.ref 224, .int (nI 2), zx, zx, zx]) (by decide) rfl (Nat.le_of_ble_eq_true rfl) ?_
  refine e_iload_n 1 dX8_readsItem_0 rfl rfl ?_
  refine e_if_neN 17 4 dX8_readsItem_1 (by decide) rfl (by decide) (fun h1 => ?_) (fun h1 => ?_)
  · refine e_iload_n 18 dX8_readsItem_17 rfl rfl ?_
    refine e_iconst 19 hic_1 dX8_readsItem_18 rfl ?_
    refine e_icmp_neN 126 22 dX8_readsItem_19 (by decide) rfl (by decide) (by decide) (fun h19 => ?_) (fun h19 => ?_)
    · refine e_iload_n 127 dX8_readsItem_126 rfl rfl ?_
      refine e_iconst 128 hic_2 dX8_readsItem_127 rfl ?_
      refine e_icmp_neN 180 131 dX8_readsItem_128 (by decide) rfl (by decide) (by decide) (fun h128 => ?_) (fun h128 => ?_)
      · exact absurd h128 (by decide)
      · refine e_aload_n 132 dX8_readsItem_131 rfl rfl ?_
        refine e_iconst 133 hic_1 dX8_readsItem_132 rfl ?_
        refine e_puti 136 dX8_readsItem_133 lf_X8_119 rfl rfl rfl rfl rfl (by decide) ?_
        have h0 := h.p4 (k := 20) (x := nI 1) (by decide)
        have d0 := hd.t20
        have f0 := zFrR.p224 (u := mi) (k := 20) (v := nI 1) (by decide)
        have t0 := f0.y ht
        refine e_aload_n 137 dX8_readsItem_136 rfl rfl ?_
        refine e_getr 140 dX8_readsItem_137 lf_X8_26 rfl rfl rfl (by decide) hr.yl ?_
        refine e_iconst 141 hic_5 dX8_readsItem_140 rfl ?_
        refine e_aload_n 142 dX8_readsItem_141 rfl rfl ?_
        refine e_iconst 143 hic_0 dX8_readsItem_142 rfl ?_
        refine e_bipush 145 hbi_9 dX8_readsItem_143 rfl ?_
        refine c_Vi 148 (ci := 8) dX8_readsItem_145 (k_X8_number G hr htw (P9 := 10) h0 t0 (zHc (hi := 9) (by decide) (by decide))) lm_X8_126 zi_yX8_number zs_yX8_number rfl rfl (by decide) rfl rfl rfl (Nat.le_of_ble_eq_true rfl) (Nat.le_of_ble_eq_true rfl) (Nat.le_of_ble_eq_true rfl) (by exact Nat.le_refl _) (by exact Nat.le_refl _) ?_
        rintro x1 u1 _ _ ⟨rfl, s1, g1, rfl, rfl⟩
        have d1 := d0.g g1
        have t1 := g1.x (zKb_n (by decide)) t0
        have f1 := g1.fr.t f0
        refine e_iast 149 dX8_readsItem_148 rfl rfl (by decide) rfl (by show 5 < 10; decide) ?_
        have d1 := d1.f (k := 0) (x := zNv t 0 10 (.ok e)) (by decide)
        have s1 := s1.po (q := 230) (k := 5) (x := nI (zNv t 0 10 (.ok e))) (by decide)
        have t1 := (zFrR.p230 (u := u1) (k := 5) (v := nI (zNv t 0 10 (.ok e))) (by decide)).y t1
        have f1 := (zFrR.p230 (u := u1) (k := 5) (v := nI (zNv t 0 10 (.ok e))) (by decide)).t f1
        refine e_aload_n 150 dX8_readsItem_149 rfl rfl ?_
        refine e_getr 153 dX8_readsItem_150 lf_X8_26 rfl rfl rfl (by decide) hr.yl ?_
        refine e_bipush 155 hbi_6 dX8_readsItem_153 rfl ?_
        refine e_aload_n 156 dX8_readsItem_155 rfl rfl ?_
        refine e_iconst 157 hic_0 dX8_readsItem_156 rfl ?_
        refine e_bipush 159 hbi_9 dX8_readsItem_157 rfl ?_
        refine c_Vi 162 (ci := 8) dX8_readsItem_159 (k_X8_number G hr htw (P9 := 10) s1 t1 (zHc (hi := 9) (by decide) (by decide))) lm_X8_126 zi_yX8_number zs_yX8_number rfl rfl (by decide) rfl rfl rfl (Nat.le_of_ble_eq_true rfl) (Nat.le_of_ble_eq_true rfl) (Nat.le_of_ble_eq_true rfl) (by exact Nat.le_refl _) (by exact Nat.le_refl _) ?_
        rintro x2 u2 _ _ ⟨rfl, s2, g2, rfl, rfl⟩
        have d2 := d1.g g2
        have t2 := g2.x (zKb_n (by decide)) t1
        have f2 := g2.fr.t f1
        refine e_iast 163 dX8_readsItem_162 rfl rfl (by decide) rfl (by show 6 < 10; decide) ?_
        have d2 := d2.f (k := 1) (x := zNv t 0 10 (zNx t 0 10 (.ok e))) (by decide)
        have s2 := s2.po (q := 230) (k := 6) (x := nI (zNv t 0 10 (zNx t 0 10 (.ok e)))) (by decide)
        have t2 := (zFrR.p230 (u := u2) (k := 6) (v := nI (zNv t 0 10 (zNx t 0 10 (.ok e)))) (by decide)).y t2
        have f2 := (zFrR.p230 (u := u2) (k := 6) (v := nI (zNv t 0 10 (zNx t 0 10 (.ok e)))) (by decide)).t f2
        refine e_aload_n 164 dX8_readsItem_163 rfl rfl ?_
        refine e_getr 167 dX8_readsItem_164 lf_X8_26 rfl rfl rfl (by decide) hr.yl ?_
        refine e_bipush 169 hbi_7 dX8_readsItem_167 rfl ?_
        refine e_aload_n 170 dX8_readsItem_169 rfl rfl ?_
        refine e_iconst 171 hic_0 dX8_readsItem_170 rfl ?_
        refine e_bipush 173 hbi_9 dX8_readsItem_171 rfl ?_
        refine c_Vi 176 (ci := 8) dX8_readsItem_173 (k_X8_number G hr htw (P9 := 10) s2 t2 (zHc (hi := 9) (by decide) (by decide))) lm_X8_126 zi_yX8_number zs_yX8_number rfl rfl (by decide) rfl rfl rfl (Nat.le_of_ble_eq_true rfl) (Nat.le_of_ble_eq_true rfl) (Nat.le_of_ble_eq_true rfl) (by exact Nat.le_refl _) (by exact Nat.le_refl _) ?_
        rintro x3 u3 _ _ ⟨rfl, s3, g3, rfl, rfl⟩
        have d3 := d2.g g3
        have t3 := g3.x (zKb_n (by decide)) t2
        have f3 := g3.fr.t f2
        refine e_iast 177 dX8_readsItem_176 rfl rfl (by decide) rfl (by show 7 < 10; decide) ?_
        have d3 := d3.f (k := 2) (x := zNv t 0 10 (zNx t 0 10 (zNx t 0 10 (.ok e)))) (by decide)
        have s3 := s3.po (q := 230) (k := 7) (x := nI (zNv t 0 10 (zNx t 0 10 (zNx t 0 10 (.ok e))))) (by decide)
        have t3 := (zFrR.p230 (u := u3) (k := 7) (v := nI (zNv t 0 10 (zNx t 0 10 (zNx t 0 10 (.ok e))))) (by decide)).y t3
        have f3 := (zFrR.p230 (u := u3) (k := 7) (v := nI (zNv t 0 10 (zNx t 0 10 (zNx t 0 10 (.ok e))))) (by decide)).t f3
        refine e_goto 318 dX8_readsItem_177 (by decide) ?_
        refine e_vreturn dX8_readsItem_318 rfl ?_
        exact ⟨rfl, ⟨zSd_law s3 d3, f3⟩, rfl, rfl⟩
    · exact absurd h19 (by decide)
  · exact absurd h1 (by decide)

set_option maxHeartbeats 4000000 in
set_option maxRecDepth 100000 in
theorem k_X8_readsItem_3 (G : zG) {D E : Nat} {t : zTx} {mi : zFi} {ml : zFl} {mr : zFr} (hr : zRf mr D E) (htw : zTxW t) (ht : zYt mi t) {s : zRd} {e : Nat} (h : zSq mi t (.ok e)) (hd : zYdr mi s) (hw : zRdW s) : zMet G 6 yX8_readsItem cX8_readsItem 5 none [.ref 224, .int (nI 3)] 238 mi ml mr 238 (zPv fun u b c => (zSd u t (zX3 t s e) ∧ zFrR u mi) ∧ b = ml ∧ c = mr) := by
  have hP3 := hw.1.1.1
  have hW5 := hw.1.1.2.1
  refine z_intro ([.ref 224, .int (nI 3), zx, zx, zx]) (by decide) rfl (Nat.le_of_ble_eq_true rfl) ?_
  refine e_iload_n 1 dX8_readsItem_0 rfl rfl ?_
  refine e_if_neN 17 4 dX8_readsItem_1 (by decide) rfl (by decide) (fun h1 => ?_) (fun h1 => ?_)
  · refine e_iload_n 18 dX8_readsItem_17 rfl rfl ?_
    refine e_iconst 19 hic_1 dX8_readsItem_18 rfl ?_
    refine e_icmp_neN 126 22 dX8_readsItem_19 (by decide) rfl (by decide) (by decide) (fun h19 => ?_) (fun h19 => ?_)
    · refine e_iload_n 127 dX8_readsItem_126 rfl rfl ?_
      refine e_iconst 128 hic_2 dX8_readsItem_127 rfl ?_
      refine e_icmp_neN 180 131 dX8_readsItem_128 (by decide) rfl (by decide) (by decide) (fun h128 => ?_) (fun h128 => ?_)
      · refine e_iload_n 181 dX8_readsItem_180 rfl rfl ?_
        refine e_iconst 182 hic_3 dX8_readsItem_181 rfl ?_
        refine e_icmp_neN 207 185 dX8_readsItem_182 (by decide) rfl (by decide) (by decide) (fun h182 => ?_) (fun h182 => ?_)
        · exact absurd h182 (by decide)
        · refine e_aload_n 186 dX8_readsItem_185 rfl rfl ?_
          refine e_iconst 187 hic_1 dX8_readsItem_186 rfl ?_
          refine e_puti 190 dX8_readsItem_187 lf_X8_123 rfl rfl rfl rfl rfl (by decide) ?_
          have h0 := h.p4 (k := 21) (x := nI 1) (by decide)
          have d0 := hd.t21
          have f0 := zFrR.p224 (u := mi) (k := 21) (v := nI 1) (by decide)
          have t0 := f0.y ht
          refine e_aload_n 191 dX8_readsItem_190 rfl rfl ?_
          refine e_getr 194 dX8_readsItem_191 lf_X8_26 rfl rfl rfl (by decide) hr.yl ?_
          refine e_bipush 196 hbi_8 dX8_readsItem_194 rfl ?_
          refine e_aload_n 197 dX8_readsItem_196 rfl rfl ?_
          refine e_iconst 198 hic_1 dX8_readsItem_197 rfl ?_
          refine e_bipush 200 hbi_99 dX8_readsItem_198 rfl ?_
          refine c_Vi 203 (ci := 8) dX8_readsItem_200 (k_X8_number G hr htw (P9 := 100) h0 t0 (zHc (lo := 1) (hi := 99) (by decide) (by decide))) lm_X8_126 zi_yX8_number zs_yX8_number rfl rfl (by decide) rfl rfl rfl (Nat.le_of_ble_eq_true rfl) (Nat.le_of_ble_eq_true rfl) (Nat.le_of_ble_eq_true rfl) (by exact Nat.le_refl _) (by exact Nat.le_refl _) ?_
          rintro x1 u1 _ _ ⟨rfl, s1, g1, rfl, rfl⟩
          have d1 := d0.g g1
          have t1 := g1.x (zKb_n (by decide)) t0
          have f1 := g1.fr.t f0
          refine e_iast 204 dX8_readsItem_203 rfl rfl (by decide) rfl (by show 8 < 10; decide) ?_
          have d1 := d1.f (k := 3) (x := zNv t 1 100 (.ok e)) (by decide)
          have s1 := s1.po (q := 230) (k := 8) (x := nI (zNv t 1 100 (.ok e))) (by decide)
          have t1 := (zFrR.p230 (u := u1) (k := 8) (v := nI (zNv t 1 100 (.ok e))) (by decide)).y t1
          have f1 := (zFrR.p230 (u := u1) (k := 8) (v := nI (zNv t 1 100 (.ok e))) (by decide)).t f1
          refine e_goto 318 dX8_readsItem_204 (by decide) ?_
          refine e_vreturn dX8_readsItem_318 rfl ?_
          exact ⟨rfl, ⟨zSd_start s1 d1, f1⟩, rfl, rfl⟩
      · exact absurd h128 (by decide)
    · exact absurd h19 (by decide)
  · exact absurd h1 (by decide)

set_option maxHeartbeats 4000000 in
set_option maxRecDepth 100000 in
theorem l_X8_near3 (G : zG) {D E : Nat} {t : zTx} {mi u3 : zFi} {ml : zFl} {mr : zFr} (hr : zRf mr D E) (htw : zTxW t) {s : zRd} {e : Nat} (hP3 : s.1 0 0 ≤ 3) (c1 : zNc9 t 0 (s.1 0 0) e) (c2 : zNc9 t 0 (s.1 0 0) (zTkE t e) ∧ ¬ zTkN t (zTkE t e) = zTkN t e) (s3 : zSq u3 t (zNx t 0 10 (.ok (zTkE t (zTkE t e))))) (d3 : zYdr u3 s) (f3 : zFrR u3 mi) : zE G (zRm (0 + 6) 238 238) (zQm G 238 238 (zPv fun u b c => (zSd u t (zX1 t s e) ∧ zFrR u mi) ∧ b = ml ∧ c = mr)) yX8_readsItem.cls yX8_readsItem.name cX8_readsItem 5 none 238 86 [.ref 224, .int (nI 1), .int (nI (zTkN t e)), .int (nI (zTkN t (zTkE t e))), .int (nI (zNv t 0 10 (.ok (zTkE t (zTkE t e)))))] [] 238 u3 ml mr := by
  have hx1 := c1.2.2
  have hx2 := c2.1.2.2
  by_cases c3 : zNc9 t 0 10 (zTkE t (zTkE t e))
  · rw [zNx_y c3] at s3
    rw [zNv_y c3]
    refine e_aload_n 87 dX8_readsItem_86 rfl rfl ?_
    refine c_Vqi 90 (ci := 8) dX8_readsItem_87 (k_X8_isWell_y G hr s3.1) lm_X8_102 zi_yX8_isWell zs_yX8_isWell rfl rfl (by decide) rfl rfl rfl (Nat.le_of_ble_eq_true rfl) (Nat.le_of_ble_eq_true rfl) (Nat.le_of_ble_eq_true rfl) (by exact Nat.le_refl _) (by exact Nat.le_refl _) ?_
    refine e_if_eq 123 93 dX8_readsItem_90 (by decide) rfl (fun h90 => ?_) (fun h90 => ?_)
    · exact absurd h90 (by decide)
    · refine e_aload_n 94 dX8_readsItem_93 rfl rfl ?_
      refine e_getr 97 dX8_readsItem_94 lf_X8_29 rfl rfl rfl (by decide) hr.yn ?_
      refine e_bipush 99 hbi_9 dX8_readsItem_97 rfl ?_
      refine e_iconst 100 hic_3 dX8_readsItem_99 rfl ?_
      refine e_iload_n 101 dX8_readsItem_100 rfl rfl ?_
      first | refine e_imulN 102 dX8_readsItem_101 rfl ?_ | refine e_imul 102 dX8_readsItem_101 rfl ?_
      first | refine e_iaddN 103 dX8_readsItem_102 rfl ?_ | refine e_iadd 103 dX8_readsItem_102 rfl ?_
      refine e_iload_n 104 dX8_readsItem_103 rfl rfl ?_
      first | refine e_iaddN 105 dX8_readsItem_104 rfl ?_ | refine e_iadd 105 dX8_readsItem_104 rfl ?_
      refine e_iload 107 dX8_readsItem_105 rfl rfl ?_
      refine e_iast 108 dX8_readsItem_107 rfl rfl (by decide) rfl (by show 9 + 3 * zTkN t e + zTkN t (zTkE t e) < 18; omega) ?_
      refine e_aload_n 109 dX8_readsItem_108 rfl rfl ?_
      refine e_getr 112 dX8_readsItem_109 lf_X8_29 rfl rfl rfl (by decide) hr.yn ?_
      refine e_bipush 114 hbi_9 dX8_readsItem_112 rfl ?_
      refine e_iconst 115 hic_3 dX8_readsItem_114 rfl ?_
      refine e_iload_n 116 dX8_readsItem_115 rfl rfl ?_
      first | refine e_imulN 117 dX8_readsItem_116 rfl ?_ | refine e_imul 117 dX8_readsItem_116 rfl ?_
      first | refine e_iaddN 118 dX8_readsItem_117 rfl ?_ | refine e_iadd 118 dX8_readsItem_117 rfl ?_
      refine e_iload_n 119 dX8_readsItem_118 rfl rfl ?_
      first | refine e_iaddN 120 dX8_readsItem_119 rfl ?_ | refine e_iadd 120 dX8_readsItem_119 rfl ?_
      refine e_iload 122 dX8_readsItem_120 rfl rfl ?_
      refine e_iast 123 dX8_readsItem_122 rfl rfl (by decide) rfl (by show 9 + 3 * zTkN t (zTkE t e) + zTkN t e < 18; omega) ?_
      refine e_goto 318 dX8_readsItem_123 (by decide) ?_
      refine e_vreturn dX8_readsItem_318 rfl ?_
      exact ⟨rfl, ⟨zSd_near3 c1 c2 c3 ((s3.po (by decide)).po (by decide)) (d3.n (by omega) (by omega)), (zFrR.p231 (by omega)).t ((zFrR.p231 (by omega)).t f3)⟩, rfl, rfl⟩
  · rw [zNx_n c3] at s3
    refine e_aload_n 87 dX8_readsItem_86 rfl rfl ?_
    refine c_Vqi 90 (ci := 8) dX8_readsItem_87 (k_X8_isWell_n G hr s3.1 (by have := htw.1; have := s3.2; omega)) lm_X8_102 zi_yX8_isWell zs_yX8_isWell rfl rfl (by decide) rfl rfl rfl (Nat.le_of_ble_eq_true rfl) (Nat.le_of_ble_eq_true rfl) (Nat.le_of_ble_eq_true rfl) (by exact Nat.le_refl _) (by exact Nat.le_refl _) ?_
    refine e_if_eq 123 93 dX8_readsItem_90 (by decide) rfl (fun h90 => ?_) (fun h90 => ?_)
    · refine e_goto 318 dX8_readsItem_123 (by decide) ?_
      refine e_vreturn dX8_readsItem_318 rfl ?_
      exact ⟨rfl, ⟨zSd_near2 c1 c2 c3 s3, f3⟩, rfl, rfl⟩
    · exact absurd rfl h90
set_option maxHeartbeats 4000000 in
set_option maxRecDepth 100000 in
theorem k_X8_readsItem_1 (G : zG) {D E : Nat} {t : zTx} {mi : zFi} {ml : zFl} {mr : zFr} (hr : zRf mr D E) (htw : zTxW t) (ht : zYt mi t) {s : zRd} {e : Nat} (h : zSq mi t (.ok e)) (hd : zYdr mi s) (hw : zRdW s) : zMet G 6 yX8_readsItem cX8_readsItem 5 none [.ref 224, .int (nI 1)] 238 mi ml mr 238 (zPv fun u b c => (zSd u t (zX1 t s e) ∧ zFrR u mi) ∧ b = ml ∧ c = mr) := by
  have hP3 := hw.1.1.1
  have hW5 := hw.1.1.2.1
  refine z_intro ([.ref 224, .int (nI 1), zx, zx, zx]) (by decide) rfl (Nat.le_of_ble_eq_true rfl) ?_
  refine e_iload_n 1 dX8_readsItem_0 rfl rfl ?_
  refine e_if_neN 17 4 dX8_readsItem_1 (by decide) rfl (by decide) (fun h1 => ?_) (fun h1 => ?_)
  · refine e_iload_n 18 dX8_readsItem_17 rfl rfl ?_
    refine e_iconst 19 hic_1 dX8_readsItem_18 rfl ?_
    refine e_icmp_neN 126 22 dX8_readsItem_19 (by decide) rfl (by decide) (by decide) (fun h19 => ?_) (fun h19 => ?_)
    · exact absurd h19 (by decide)
    · refine e_aload_n 23 dX8_readsItem_22 rfl rfl ?_
      refine e_iconst 24 hic_0 dX8_readsItem_23 rfl ?_
      refine e_aload_n 25 dX8_readsItem_24 rfl rfl ?_
      refine e_geti 28 dX8_readsItem_25 lf_X8_113 rfl rfl rfl (by decide) hd.1.1 ?_
      refine e_iconst 29 hic_1 dX8_readsItem_28 rfl ?_
      refine e_isub 30 dX8_readsItem_29 rfl ?_
      refine c_Vi 33 (ci := 8) dX8_readsItem_30 (k_X8_number G hr htw h ht (zHp hP3)) lm_X8_126 zi_yX8_number zs_yX8_number rfl rfl (by decide) rfl rfl rfl (Nat.le_of_ble_eq_true rfl) (Nat.le_of_ble_eq_true rfl) (Nat.le_of_ble_eq_true rfl) (by exact Nat.le_refl _) (by exact Nat.le_refl _) ?_
      rintro x1 u1 _ _ ⟨rfl, s1, g1, rfl, rfl⟩
      have d1 := hd.g g1
      have t1 := g1.x (zKb_n (by decide)) ht
      have f1 := g1.fr.t (zFrR.r mi)
      refine e_istore_n 34 dX8_readsItem_33 rfl (by decide) (zst1_2 rfl) ?_
      by_cases c1 : zNc9 t 0 (s.1 0 0) e
      · rw [zNx_y c1] at s1
        rw [zNv_y c1]
        refine e_aload_n 35 dX8_readsItem_34 rfl rfl ?_
        refine e_aload_n 36 dX8_readsItem_35 rfl rfl ?_
        refine e_geti 39 dX8_readsItem_36 lf_X8_89 rfl rfl rfl (by decide) s1.2.1.2.2.1 ?_
        refine e_iconst 40 hic_2 dX8_readsItem_39 rfl ?_
        refine e_icmp_neN 72 43 dX8_readsItem_40 (by decide) rfl (by have := yTok_lt (t := t) (b := zTkE t e); omega) (by omega) (fun h40 => ?_) (fun h40 => ?_)
        · have c2 : ¬ (zNc9 t 0 (s.1 0 0) (zTkE t e) ∧ ¬ zTkN t (zTkE t e) = zTkN t e) := fun z => h40 (yTok_2.mpr z.1.1)
          refine e_iconst 73 hic_0 dX8_readsItem_72 rfl ?_
          first
            | (refine c_Vi 76 (ci := 8) dX8_readsItem_73 (k_X8_takes_1 G hr htw s1 t1) lm_X8_109 zi_yX8_takes zs_yX8_takes rfl rfl (by decide) rfl rfl rfl (Nat.le_of_ble_eq_true rfl) (Nat.le_of_ble_eq_true rfl) (Nat.le_of_ble_eq_true rfl) (by exact Nat.le_refl _) (by exact Nat.le_refl _) ?_
               rintro x2 u2 _ _ ⟨hx2, s2, g2, rfl, rfl⟩
               have hx2 : x2 = nI (zTkN t (zTkE t e)) := hx2.trans (s1.2.1.2.2.2.1 c2.1.1)
               subst hx2
               have d2 := d1.g g2
               have t2 := g2.x (zKb_n (by decide)) t1
               have f2 := g2.fr.t f1
               refine e_istore_n 77 dX8_readsItem_76 rfl (by decide) (zst1_3 rfl) ?_
               refine e_aload_n 78 dX8_readsItem_77 rfl rfl ?_
               refine e_iconst 79 hic_0 dX8_readsItem_78 rfl ?_
               refine e_bipush 81 hbi_9 dX8_readsItem_79 rfl ?_
               refine c_Vi 84 (ci := 8) dX8_readsItem_81 (k_X8_number_y G hr htw (P9 := 10) s2 t2 (zHc (hi := 9) (by decide) (by decide))) lm_X8_126 zi_yX8_number zs_yX8_number rfl rfl (by decide) rfl rfl rfl (Nat.le_of_ble_eq_true rfl) (Nat.le_of_ble_eq_true rfl) (Nat.le_of_ble_eq_true rfl) (by exact Nat.le_refl _) (by exact Nat.le_refl _) ?_
               rintro x3 u3 _ _ ⟨rfl, s3, g3, rfl, rfl⟩
               have d3 := d2.g g3
               have f3 := g3.fr.t f2
               refine e_istore 86 dX8_readsItem_84 rfl (by decide) (zst1_4 rfl) ?_
               exact l_X8_near3 G hr htw hP3 c1 c2 s3 d3 f3)
            | (refine c_Vi 76 (ci := 8) dX8_readsItem_73 (k_X8_takes_0 G hr htw s1 t1) lm_X8_109 zi_yX8_takes zs_yX8_takes rfl rfl (by decide) rfl rfl rfl (Nat.le_of_ble_eq_true rfl) (Nat.le_of_ble_eq_true rfl) (Nat.le_of_ble_eq_true rfl) (by exact Nat.le_refl _) (by exact Nat.le_refl _) ?_
               rintro x2 u2 _ _ ⟨rfl, s2, g2, rfl, rfl⟩
               have f2 := g2.fr.t f1
               refine e_istore_n 77 dX8_readsItem_76 rfl (by decide) (zst1_3 rfl) ?_
               refine e_aload_n 78 dX8_readsItem_77 rfl rfl ?_
               refine e_iconst 79 hic_0 dX8_readsItem_78 rfl ?_
               refine e_bipush 81 hbi_9 dX8_readsItem_79 rfl ?_
               refine c_Vi 84 (ci := 8) dX8_readsItem_81 (k_X8_number_n G hr htw s2) lm_X8_126 zi_yX8_number zs_yX8_number rfl rfl (by decide) rfl rfl rfl (Nat.le_of_ble_eq_true rfl) (Nat.le_of_ble_eq_true rfl) (Nat.le_of_ble_eq_true rfl) (by exact Nat.le_refl _) (by exact Nat.le_refl _) ?_
               rintro x3 u3 _ _ ⟨rfl, s3, g3, rfl, rfl⟩
               have f3 := g3.fr.t f2
               refine e_istore 86 dX8_readsItem_84 rfl (by decide) (zst1_4 rfl) ?_
               refine e_aload_n 87 dX8_readsItem_86 rfl rfl ?_
               refine c_Vqi 90 (ci := 8) dX8_readsItem_87 (k_X8_isWell_n G hr s3.1 (by have := htw.1; have := s3.2; omega)) lm_X8_102 zi_yX8_isWell zs_yX8_isWell rfl rfl (by decide) rfl rfl rfl (Nat.le_of_ble_eq_true rfl) (Nat.le_of_ble_eq_true rfl) (Nat.le_of_ble_eq_true rfl) (by exact Nat.le_refl _) (by exact Nat.le_refl _) ?_
               refine e_if_eq 123 93 dX8_readsItem_90 (by decide) rfl (fun h90 => ?_) (fun h90 => ?_)
               · refine e_goto 318 dX8_readsItem_123 (by decide) ?_
                 refine e_vreturn dX8_readsItem_318 rfl ?_
                 exact ⟨rfl, ⟨zSd_near1 c1 c2 s3, f3⟩, rfl, rfl⟩
               · exact absurd rfl h90)
        · have hK := yTok_2.mp h40
          have hn := zTkN_ok hK
          have hn1 := zTkN_ok c1.1
          refine e_aload_n 44 dX8_readsItem_43 rfl rfl ?_
          refine e_geti 47 dX8_readsItem_44 lf_X8_96 rfl rfl rfl (by decide) (s1.2.1.2.2.2.1 hK) ?_
          refine e_iconst 48 hic_0 dX8_readsItem_47 rfl ?_
          refine e_aload_n 49 dX8_readsItem_48 rfl rfl ?_
          refine e_geti 52 dX8_readsItem_49 lf_X8_113 rfl rfl rfl (by decide) d1.1.1 ?_
          refine e_iconst 53 hic_1 dX8_readsItem_52 rfl ?_
          refine e_isub 54 dX8_readsItem_53 rfl ?_
          refine c_Sqi 57 dX8_readsItem_54 (k_X8_in G) lm_X8_60 zt_yX8_in rfl rfl rfl (Nat.le_of_ble_eq_true rfl) (Nat.le_of_ble_eq_true rfl) (Nat.le_of_ble_eq_true rfl) (by exact Nat.le_refl _) (by exact Nat.le_refl _) ?_
          refine e_if_eq 72 60 dX8_readsItem_57 (by decide) rfl (fun h57 => ?_) (fun h57 => ?_)
          · have c2 : ¬ (zNc9 t 0 (s.1 0 0) (zTkE t e) ∧ ¬ zTkN t (zTkE t e) = zTkN t e) := fun z => zB_0 h57 ((zHp hP3 _ hn.2).mpr z.1.2)
            refine e_iconst 73 hic_0 dX8_readsItem_72 rfl ?_
            first
              | (refine c_Vi 76 (ci := 8) dX8_readsItem_73 (k_X8_takes_1 G hr htw s1 t1) lm_X8_109 zi_yX8_takes zs_yX8_takes rfl rfl (by decide) rfl rfl rfl (Nat.le_of_ble_eq_true rfl) (Nat.le_of_ble_eq_true rfl) (Nat.le_of_ble_eq_true rfl) (by exact Nat.le_refl _) (by exact Nat.le_refl _) ?_
                 rintro x2 u2 _ _ ⟨hx2, s2, g2, rfl, rfl⟩
                 have hx2 : x2 = nI (zTkN t (zTkE t e)) := hx2.trans (s1.2.1.2.2.2.1 c2.1.1)
                 subst hx2
                 have d2 := d1.g g2
                 have t2 := g2.x (zKb_n (by decide)) t1
                 have f2 := g2.fr.t f1
                 refine e_istore_n 77 dX8_readsItem_76 rfl (by decide) (zst1_3 rfl) ?_
                 refine e_aload_n 78 dX8_readsItem_77 rfl rfl ?_
                 refine e_iconst 79 hic_0 dX8_readsItem_78 rfl ?_
                 refine e_bipush 81 hbi_9 dX8_readsItem_79 rfl ?_
                 refine c_Vi 84 (ci := 8) dX8_readsItem_81 (k_X8_number_y G hr htw (P9 := 10) s2 t2 (zHc (hi := 9) (by decide) (by decide))) lm_X8_126 zi_yX8_number zs_yX8_number rfl rfl (by decide) rfl rfl rfl (Nat.le_of_ble_eq_true rfl) (Nat.le_of_ble_eq_true rfl) (Nat.le_of_ble_eq_true rfl) (by exact Nat.le_refl _) (by exact Nat.le_refl _) ?_
                 rintro x3 u3 _ _ ⟨rfl, s3, g3, rfl, rfl⟩
                 have d3 := d2.g g3
                 have f3 := g3.fr.t f2
                 refine e_istore 86 dX8_readsItem_84 rfl (by decide) (zst1_4 rfl) ?_
                 exact l_X8_near3 G hr htw hP3 c1 c2 s3 d3 f3)
              | (refine c_Vi 76 (ci := 8) dX8_readsItem_73 (k_X8_takes_0 G hr htw s1 t1) lm_X8_109 zi_yX8_takes zs_yX8_takes rfl rfl (by decide) rfl rfl rfl (Nat.le_of_ble_eq_true rfl) (Nat.le_of_ble_eq_true rfl) (Nat.le_of_ble_eq_true rfl) (by exact Nat.le_refl _) (by exact Nat.le_refl _) ?_
                 rintro x2 u2 _ _ ⟨rfl, s2, g2, rfl, rfl⟩
                 have f2 := g2.fr.t f1
                 refine e_istore_n 77 dX8_readsItem_76 rfl (by decide) (zst1_3 rfl) ?_
                 refine e_aload_n 78 dX8_readsItem_77 rfl rfl ?_
                 refine e_iconst 79 hic_0 dX8_readsItem_78 rfl ?_
                 refine e_bipush 81 hbi_9 dX8_readsItem_79 rfl ?_
                 refine c_Vi 84 (ci := 8) dX8_readsItem_81 (k_X8_number_n G hr htw s2) lm_X8_126 zi_yX8_number zs_yX8_number rfl rfl (by decide) rfl rfl rfl (Nat.le_of_ble_eq_true rfl) (Nat.le_of_ble_eq_true rfl) (Nat.le_of_ble_eq_true rfl) (by exact Nat.le_refl _) (by exact Nat.le_refl _) ?_
                 rintro x3 u3 _ _ ⟨rfl, s3, g3, rfl, rfl⟩
                 have f3 := g3.fr.t f2
                 refine e_istore 86 dX8_readsItem_84 rfl (by decide) (zst1_4 rfl) ?_
                 refine e_aload_n 87 dX8_readsItem_86 rfl rfl ?_
                 refine c_Vqi 90 (ci := 8) dX8_readsItem_87 (k_X8_isWell_n G hr s3.1 (by have := htw.1; have := s3.2; omega)) lm_X8_102 zi_yX8_isWell zs_yX8_isWell rfl rfl (by decide) rfl rfl rfl (Nat.le_of_ble_eq_true rfl) (Nat.le_of_ble_eq_true rfl) (Nat.le_of_ble_eq_true rfl) (by exact Nat.le_refl _) (by exact Nat.le_refl _) ?_
                 refine e_if_eq 123 93 dX8_readsItem_90 (by decide) rfl (fun h90 => ?_) (fun h90 => ?_)
                 · refine e_goto 318 dX8_readsItem_123 (by decide) ?_
                   refine e_vreturn dX8_readsItem_318 rfl ?_
                   exact ⟨rfl, ⟨zSd_near1 c1 c2 s3, f3⟩, rfl, rfl⟩
                 · exact absurd rfl h90)
          · have cc : zNc9 t 0 (s.1 0 0) (zTkE t e) := ⟨hK, (zHp hP3 _ hn.2).mp (zB_1 h57)⟩
            refine e_aload_n 61 dX8_readsItem_60 rfl rfl ?_
            refine e_geti 64 dX8_readsItem_61 lf_X8_96 rfl rfl rfl (by decide) (s1.2.1.2.2.2.1 hK) ?_
            refine e_iload_n 65 dX8_readsItem_64 rfl rfl ?_
            refine e_icmp_eqN 72 68 dX8_readsItem_65 (by decide) rfl (by omega) (by omega) (fun h65 => ?_) (fun h65 => ?_)
            · have c2 : ¬ (zNc9 t 0 (s.1 0 0) (zTkE t e) ∧ ¬ zTkN t (zTkE t e) = zTkN t e) := fun z => z.2 h65
              refine e_iconst 73 hic_0 dX8_readsItem_72 rfl ?_
              first
                | (refine c_Vi 76 (ci := 8) dX8_readsItem_73 (k_X8_takes_1 G hr htw s1 t1) lm_X8_109 zi_yX8_takes zs_yX8_takes rfl rfl (by decide) rfl rfl rfl (Nat.le_of_ble_eq_true rfl) (Nat.le_of_ble_eq_true rfl) (Nat.le_of_ble_eq_true rfl) (by exact Nat.le_refl _) (by exact Nat.le_refl _) ?_
                   rintro x2 u2 _ _ ⟨hx2, s2, g2, rfl, rfl⟩
                   have hx2 : x2 = nI (zTkN t (zTkE t e)) := hx2.trans (s1.2.1.2.2.2.1 c2.1.1)
                   subst hx2
                   have d2 := d1.g g2
                   have t2 := g2.x (zKb_n (by decide)) t1
                   have f2 := g2.fr.t f1
                   refine e_istore_n 77 dX8_readsItem_76 rfl (by decide) (zst1_3 rfl) ?_
                   refine e_aload_n 78 dX8_readsItem_77 rfl rfl ?_
                   refine e_iconst 79 hic_0 dX8_readsItem_78 rfl ?_
                   refine e_bipush 81 hbi_9 dX8_readsItem_79 rfl ?_
                   refine c_Vi 84 (ci := 8) dX8_readsItem_81 (k_X8_number_y G hr htw (P9 := 10) s2 t2 (zHc (hi := 9) (by decide) (by decide))) lm_X8_126 zi_yX8_number zs_yX8_number rfl rfl (by decide) rfl rfl rfl (Nat.le_of_ble_eq_true rfl) (Nat.le_of_ble_eq_true rfl) (Nat.le_of_ble_eq_true rfl) (by exact Nat.le_refl _) (by exact Nat.le_refl _) ?_
                   rintro x3 u3 _ _ ⟨rfl, s3, g3, rfl, rfl⟩
                   have d3 := d2.g g3
                   have f3 := g3.fr.t f2
                   refine e_istore 86 dX8_readsItem_84 rfl (by decide) (zst1_4 rfl) ?_
                   exact l_X8_near3 G hr htw hP3 c1 c2 s3 d3 f3)
                | (refine c_Vi 76 (ci := 8) dX8_readsItem_73 (k_X8_takes_0 G hr htw s1 t1) lm_X8_109 zi_yX8_takes zs_yX8_takes rfl rfl (by decide) rfl rfl rfl (Nat.le_of_ble_eq_true rfl) (Nat.le_of_ble_eq_true rfl) (Nat.le_of_ble_eq_true rfl) (by exact Nat.le_refl _) (by exact Nat.le_refl _) ?_
                   rintro x2 u2 _ _ ⟨rfl, s2, g2, rfl, rfl⟩
                   have f2 := g2.fr.t f1
                   refine e_istore_n 77 dX8_readsItem_76 rfl (by decide) (zst1_3 rfl) ?_
                   refine e_aload_n 78 dX8_readsItem_77 rfl rfl ?_
                   refine e_iconst 79 hic_0 dX8_readsItem_78 rfl ?_
                   refine e_bipush 81 hbi_9 dX8_readsItem_79 rfl ?_
                   refine c_Vi 84 (ci := 8) dX8_readsItem_81 (k_X8_number_n G hr htw s2) lm_X8_126 zi_yX8_number zs_yX8_number rfl rfl (by decide) rfl rfl rfl (Nat.le_of_ble_eq_true rfl) (Nat.le_of_ble_eq_true rfl) (Nat.le_of_ble_eq_true rfl) (by exact Nat.le_refl _) (by exact Nat.le_refl _) ?_
                   rintro x3 u3 _ _ ⟨rfl, s3, g3, rfl, rfl⟩
                   have f3 := g3.fr.t f2
                   refine e_istore 86 dX8_readsItem_84 rfl (by decide) (zst1_4 rfl) ?_
                   refine e_aload_n 87 dX8_readsItem_86 rfl rfl ?_
                   refine c_Vqi 90 (ci := 8) dX8_readsItem_87 (k_X8_isWell_n G hr s3.1 (by have := htw.1; have := s3.2; omega)) lm_X8_102 zi_yX8_isWell zs_yX8_isWell rfl rfl (by decide) rfl rfl rfl (Nat.le_of_ble_eq_true rfl) (Nat.le_of_ble_eq_true rfl) (Nat.le_of_ble_eq_true rfl) (by exact Nat.le_refl _) (by exact Nat.le_refl _) ?_
                   refine e_if_eq 123 93 dX8_readsItem_90 (by decide) rfl (fun h90 => ?_) (fun h90 => ?_)
                   · refine e_goto 318 dX8_readsItem_123 (by decide) ?_
                     refine e_vreturn dX8_readsItem_318 rfl ?_
                     exact ⟨rfl, ⟨zSd_near1 c1 c2 s3, f3⟩, rfl, rfl⟩
                   · exact absurd rfl h90)
            · have c2 : zNc9 t 0 (s.1 0 0) (zTkE t e) ∧ ¬ zTkN t (zTkE t e) = zTkN t e := ⟨cc, h65⟩
              refine e_iconst 69 hic_1 dX8_readsItem_68 rfl ?_
              refine e_goto 73 dX8_readsItem_69 (by decide) ?_
              first
                | (refine c_Vi 76 (ci := 8) dX8_readsItem_73 (k_X8_takes_1 G hr htw s1 t1) lm_X8_109 zi_yX8_takes zs_yX8_takes rfl rfl (by decide) rfl rfl rfl (Nat.le_of_ble_eq_true rfl) (Nat.le_of_ble_eq_true rfl) (Nat.le_of_ble_eq_true rfl) (by exact Nat.le_refl _) (by exact Nat.le_refl _) ?_
                   rintro x2 u2 _ _ ⟨hx2, s2, g2, rfl, rfl⟩
                   have hx2 : x2 = nI (zTkN t (zTkE t e)) := hx2.trans (s1.2.1.2.2.2.1 c2.1.1)
                   subst hx2
                   have d2 := d1.g g2
                   have t2 := g2.x (zKb_n (by decide)) t1
                   have f2 := g2.fr.t f1
                   refine e_istore_n 77 dX8_readsItem_76 rfl (by decide) (zst1_3 rfl) ?_
                   refine e_aload_n 78 dX8_readsItem_77 rfl rfl ?_
                   refine e_iconst 79 hic_0 dX8_readsItem_78 rfl ?_
                   refine e_bipush 81 hbi_9 dX8_readsItem_79 rfl ?_
                   refine c_Vi 84 (ci := 8) dX8_readsItem_81 (k_X8_number_y G hr htw (P9 := 10) s2 t2 (zHc (hi := 9) (by decide) (by decide))) lm_X8_126 zi_yX8_number zs_yX8_number rfl rfl (by decide) rfl rfl rfl (Nat.le_of_ble_eq_true rfl) (Nat.le_of_ble_eq_true rfl) (Nat.le_of_ble_eq_true rfl) (by exact Nat.le_refl _) (by exact Nat.le_refl _) ?_
                   rintro x3 u3 _ _ ⟨rfl, s3, g3, rfl, rfl⟩
                   have d3 := d2.g g3
                   have f3 := g3.fr.t f2
                   refine e_istore 86 dX8_readsItem_84 rfl (by decide) (zst1_4 rfl) ?_
                   exact l_X8_near3 G hr htw hP3 c1 c2 s3 d3 f3)
                | (refine c_Vi 76 (ci := 8) dX8_readsItem_73 (k_X8_takes_0 G hr htw s1 t1) lm_X8_109 zi_yX8_takes zs_yX8_takes rfl rfl (by decide) rfl rfl rfl (Nat.le_of_ble_eq_true rfl) (Nat.le_of_ble_eq_true rfl) (Nat.le_of_ble_eq_true rfl) (by exact Nat.le_refl _) (by exact Nat.le_refl _) ?_
                   rintro x2 u2 _ _ ⟨rfl, s2, g2, rfl, rfl⟩
                   have f2 := g2.fr.t f1
                   refine e_istore_n 77 dX8_readsItem_76 rfl (by decide) (zst1_3 rfl) ?_
                   refine e_aload_n 78 dX8_readsItem_77 rfl rfl ?_
                   refine e_iconst 79 hic_0 dX8_readsItem_78 rfl ?_
                   refine e_bipush 81 hbi_9 dX8_readsItem_79 rfl ?_
                   refine c_Vi 84 (ci := 8) dX8_readsItem_81 (k_X8_number_n G hr htw s2) lm_X8_126 zi_yX8_number zs_yX8_number rfl rfl (by decide) rfl rfl rfl (Nat.le_of_ble_eq_true rfl) (Nat.le_of_ble_eq_true rfl) (Nat.le_of_ble_eq_true rfl) (by exact Nat.le_refl _) (by exact Nat.le_refl _) ?_
                   rintro x3 u3 _ _ ⟨rfl, s3, g3, rfl, rfl⟩
                   have f3 := g3.fr.t f2
                   refine e_istore 86 dX8_readsItem_84 rfl (by decide) (zst1_4 rfl) ?_
                   refine e_aload_n 87 dX8_readsItem_86 rfl rfl ?_
                   refine c_Vqi 90 (ci := 8) dX8_readsItem_87 (k_X8_isWell_n G hr s3.1 (by have := htw.1; have := s3.2; omega)) lm_X8_102 zi_yX8_isWell zs_yX8_isWell rfl rfl (by decide) rfl rfl rfl (Nat.le_of_ble_eq_true rfl) (Nat.le_of_ble_eq_true rfl) (Nat.le_of_ble_eq_true rfl) (by exact Nat.le_refl _) (by exact Nat.le_refl _) ?_
                   refine e_if_eq 123 93 dX8_readsItem_90 (by decide) rfl (fun h90 => ?_) (fun h90 => ?_)
                   · refine e_goto 318 dX8_readsItem_123 (by decide) ?_
                     refine e_vreturn dX8_readsItem_318 rfl ?_
                     exact ⟨rfl, ⟨zSd_near1 c1 c2 s3, f3⟩, rfl, rfl⟩
                   · exact absurd rfl h90)
      · rw [zNx_n c1] at s1
        refine e_aload_n 35 dX8_readsItem_34 rfl rfl ?_
        refine e_aload_n 36 dX8_readsItem_35 rfl rfl ?_
        refine e_geti 39 dX8_readsItem_36 lf_X8_89 rfl rfl rfl (by decide) rfl ?_
        refine e_iconst 40 hic_2 dX8_readsItem_39 rfl ?_
        refine e_icmp_ne 72 43 dX8_readsItem_40 (by decide) rfl (fun h40 => ?_) (fun h40 => ?_)
        · refine e_iconst 73 hic_0 dX8_readsItem_72 rfl ?_
          refine c_Vi 76 (ci := 8) dX8_readsItem_73 (k_X8_takes_n G hr htw s1) lm_X8_109 zi_yX8_takes zs_yX8_takes rfl rfl (by decide) rfl rfl rfl (Nat.le_of_ble_eq_true rfl) (Nat.le_of_ble_eq_true rfl) (Nat.le_of_ble_eq_true rfl) (by exact Nat.le_refl _) (by exact Nat.le_refl _) ?_
          rintro x2 u2 _ _ ⟨rfl, s2, g2, rfl, rfl⟩
          have f2 := g2.fr.t f1
          refine e_istore_n 77 dX8_readsItem_76 rfl (by decide) (zst1_3 rfl) ?_
          refine e_aload_n 78 dX8_readsItem_77 rfl rfl ?_
          refine e_iconst 79 hic_0 dX8_readsItem_78 rfl ?_
          refine e_bipush 81 hbi_9 dX8_readsItem_79 rfl ?_
          refine c_Vi 84 (ci := 8) dX8_readsItem_81 (k_X8_number_n G hr htw s2) lm_X8_126 zi_yX8_number zs_yX8_number rfl rfl (by decide) rfl rfl rfl (Nat.le_of_ble_eq_true rfl) (Nat.le_of_ble_eq_true rfl) (Nat.le_of_ble_eq_true rfl) (by exact Nat.le_refl _) (by exact Nat.le_refl _) ?_
          rintro x3 u3 _ _ ⟨rfl, s3, g3, rfl, rfl⟩
          have f3 := g3.fr.t f2
          refine e_istore 86 dX8_readsItem_84 rfl (by decide) (zst1_4 rfl) ?_
          refine e_aload_n 87 dX8_readsItem_86 rfl rfl ?_
          refine c_Vqi 90 (ci := 8) dX8_readsItem_87 (k_X8_isWell_n G hr s3.1 (by have := htw.1; have := s3.2; omega)) lm_X8_102 zi_yX8_isWell zs_yX8_isWell rfl rfl (by decide) rfl rfl rfl (Nat.le_of_ble_eq_true rfl) (Nat.le_of_ble_eq_true rfl) (Nat.le_of_ble_eq_true rfl) (by exact Nat.le_refl _) (by exact Nat.le_refl _) ?_
          refine e_if_eq 123 93 dX8_readsItem_90 (by decide) rfl (fun h90 => ?_) (fun h90 => ?_)
          · refine e_goto 318 dX8_readsItem_123 (by decide) ?_
            refine e_vreturn dX8_readsItem_318 rfl ?_
            exact ⟨rfl, ⟨zSd_near0 c1 s3, f3⟩, rfl, rfl⟩
          · exact absurd rfl h90
        · refine e_aload_n 44 dX8_readsItem_43 rfl rfl ?_
          refine e_geti 47 dX8_readsItem_44 lf_X8_96 rfl rfl rfl (by decide) rfl ?_
          refine e_iconst 48 hic_0 dX8_readsItem_47 rfl ?_
          refine e_aload_n 49 dX8_readsItem_48 rfl rfl ?_
          refine e_geti 52 dX8_readsItem_49 lf_X8_113 rfl rfl rfl (by decide) d1.1.1 ?_
          refine e_iconst 53 hic_1 dX8_readsItem_52 rfl ?_
          refine e_isub 54 dX8_readsItem_53 rfl ?_
          refine c_Sqi 57 dX8_readsItem_54 (k_X8_in G) lm_X8_60 zt_yX8_in rfl rfl rfl (Nat.le_of_ble_eq_true rfl) (Nat.le_of_ble_eq_true rfl) (Nat.le_of_ble_eq_true rfl) (by exact Nat.le_refl _) (by exact Nat.le_refl _) ?_
          refine e_if_eq 72 60 dX8_readsItem_57 (by decide) rfl (fun h57 => ?_) (fun h57 => ?_)
          · refine e_iconst 73 hic_0 dX8_readsItem_72 rfl ?_
            refine c_Vi 76 (ci := 8) dX8_readsItem_73 (k_X8_takes_n G hr htw s1) lm_X8_109 zi_yX8_takes zs_yX8_takes rfl rfl (by decide) rfl rfl rfl (Nat.le_of_ble_eq_true rfl) (Nat.le_of_ble_eq_true rfl) (Nat.le_of_ble_eq_true rfl) (by exact Nat.le_refl _) (by exact Nat.le_refl _) ?_
            rintro x2 u2 _ _ ⟨rfl, s2, g2, rfl, rfl⟩
            have f2 := g2.fr.t f1
            refine e_istore_n 77 dX8_readsItem_76 rfl (by decide) (zst1_3 rfl) ?_
            refine e_aload_n 78 dX8_readsItem_77 rfl rfl ?_
            refine e_iconst 79 hic_0 dX8_readsItem_78 rfl ?_
            refine e_bipush 81 hbi_9 dX8_readsItem_79 rfl ?_
            refine c_Vi 84 (ci := 8) dX8_readsItem_81 (k_X8_number_n G hr htw s2) lm_X8_126 zi_yX8_number zs_yX8_number rfl rfl (by decide) rfl rfl rfl (Nat.le_of_ble_eq_true rfl) (Nat.le_of_ble_eq_true rfl) (Nat.le_of_ble_eq_true rfl) (by exact Nat.le_refl _) (by exact Nat.le_refl _) ?_
            rintro x3 u3 _ _ ⟨rfl, s3, g3, rfl, rfl⟩
            have f3 := g3.fr.t f2
            refine e_istore 86 dX8_readsItem_84 rfl (by decide) (zst1_4 rfl) ?_
            refine e_aload_n 87 dX8_readsItem_86 rfl rfl ?_
            refine c_Vqi 90 (ci := 8) dX8_readsItem_87 (k_X8_isWell_n G hr s3.1 (by have := htw.1; have := s3.2; omega)) lm_X8_102 zi_yX8_isWell zs_yX8_isWell rfl rfl (by decide) rfl rfl rfl (Nat.le_of_ble_eq_true rfl) (Nat.le_of_ble_eq_true rfl) (Nat.le_of_ble_eq_true rfl) (by exact Nat.le_refl _) (by exact Nat.le_refl _) ?_
            refine e_if_eq 123 93 dX8_readsItem_90 (by decide) rfl (fun h90 => ?_) (fun h90 => ?_)
            · refine e_goto 318 dX8_readsItem_123 (by decide) ?_
              refine e_vreturn dX8_readsItem_318 rfl ?_
              exact ⟨rfl, ⟨zSd_near0 c1 s3, f3⟩, rfl, rfl⟩
            · exact absurd rfl h90
          · refine e_aload_n 61 dX8_readsItem_60 rfl rfl ?_
            refine e_geti 64 dX8_readsItem_61 lf_X8_96 rfl rfl rfl (by decide) rfl ?_
            refine e_iload_n 65 dX8_readsItem_64 rfl rfl ?_
            refine e_icmp_eq 72 68 dX8_readsItem_65 (by decide) rfl (fun h65 => ?_) (fun h65 => ?_)
            · refine e_iconst 73 hic_0 dX8_readsItem_72 rfl ?_
              refine c_Vi 76 (ci := 8) dX8_readsItem_73 (k_X8_takes_n G hr htw s1) lm_X8_109 zi_yX8_takes zs_yX8_takes rfl rfl (by decide) rfl rfl rfl (Nat.le_of_ble_eq_true rfl) (Nat.le_of_ble_eq_true rfl) (Nat.le_of_ble_eq_true rfl) (by exact Nat.le_refl _) (by exact Nat.le_refl _) ?_
              rintro x2 u2 _ _ ⟨rfl, s2, g2, rfl, rfl⟩
              have f2 := g2.fr.t f1
              refine e_istore_n 77 dX8_readsItem_76 rfl (by decide) (zst1_3 rfl) ?_
              refine e_aload_n 78 dX8_readsItem_77 rfl rfl ?_
              refine e_iconst 79 hic_0 dX8_readsItem_78 rfl ?_
              refine e_bipush 81 hbi_9 dX8_readsItem_79 rfl ?_
              refine c_Vi 84 (ci := 8) dX8_readsItem_81 (k_X8_number_n G hr htw s2) lm_X8_126 zi_yX8_number zs_yX8_number rfl rfl (by decide) rfl rfl rfl (Nat.le_of_ble_eq_true rfl) (Nat.le_of_ble_eq_true rfl) (Nat.le_of_ble_eq_true rfl) (by exact Nat.le_refl _) (by exact Nat.le_refl _) ?_
              rintro x3 u3 _ _ ⟨rfl, s3, g3, rfl, rfl⟩
              have f3 := g3.fr.t f2
              refine e_istore 86 dX8_readsItem_84 rfl (by decide) (zst1_4 rfl) ?_
              refine e_aload_n 87 dX8_readsItem_86 rfl rfl ?_
              refine c_Vqi 90 (ci := 8) dX8_readsItem_87 (k_X8_isWell_n G hr s3.1 (by have := htw.1; have := s3.2; omega)) lm_X8_102 zi_yX8_isWell zs_yX8_isWell rfl rfl (by decide) rfl rfl rfl (Nat.le_of_ble_eq_true rfl) (Nat.le_of_ble_eq_true rfl) (Nat.le_of_ble_eq_true rfl) (by exact Nat.le_refl _) (by exact Nat.le_refl _) ?_
              refine e_if_eq 123 93 dX8_readsItem_90 (by decide) rfl (fun h90 => ?_) (fun h90 => ?_)
              · refine e_goto 318 dX8_readsItem_123 (by decide) ?_
                refine e_vreturn dX8_readsItem_318 rfl ?_
                exact ⟨rfl, ⟨zSd_near0 c1 s3, f3⟩, rfl, rfl⟩
              · exact absurd rfl h90
            · refine e_iconst 69 hic_1 dX8_readsItem_68 rfl ?_
              refine e_goto 73 dX8_readsItem_69 (by decide) ?_
              refine c_Vi 76 (ci := 8) dX8_readsItem_73 (k_X8_takes_n G hr htw s1) lm_X8_109 zi_yX8_takes zs_yX8_takes rfl rfl (by decide) rfl rfl rfl (Nat.le_of_ble_eq_true rfl) (Nat.le_of_ble_eq_true rfl) (Nat.le_of_ble_eq_true rfl) (by exact Nat.le_refl _) (by exact Nat.le_refl _) ?_
              rintro x2 u2 _ _ ⟨rfl, s2, g2, rfl, rfl⟩
              have f2 := g2.fr.t f1
              refine e_istore_n 77 dX8_readsItem_76 rfl (by decide) (zst1_3 rfl) ?_
              refine e_aload_n 78 dX8_readsItem_77 rfl rfl ?_
              refine e_iconst 79 hic_0 dX8_readsItem_78 rfl ?_
              refine e_bipush 81 hbi_9 dX8_readsItem_79 rfl ?_
              refine c_Vi 84 (ci := 8) dX8_readsItem_81 (k_X8_number_n G hr htw s2) lm_X8_126 zi_yX8_number zs_yX8_number rfl rfl (by decide) rfl rfl rfl (Nat.le_of_ble_eq_true rfl) (Nat.le_of_ble_eq_true rfl) (Nat.le_of_ble_eq_true rfl) (by exact Nat.le_refl _) (by exact Nat.le_refl _) ?_
              rintro x3 u3 _ _ ⟨rfl, s3, g3, rfl, rfl⟩
              have f3 := g3.fr.t f2
              refine e_istore 86 dX8_readsItem_84 rfl (by decide) (zst1_4 rfl) ?_
              refine e_aload_n 87 dX8_readsItem_86 rfl rfl ?_
              refine c_Vqi 90 (ci := 8) dX8_readsItem_87 (k_X8_isWell_n G hr s3.1 (by have := htw.1; have := s3.2; omega)) lm_X8_102 zi_yX8_isWell zs_yX8_isWell rfl rfl (by decide) rfl rfl rfl (Nat.le_of_ble_eq_true rfl) (Nat.le_of_ble_eq_true rfl) (Nat.le_of_ble_eq_true rfl) (by exact Nat.le_refl _) (by exact Nat.le_refl _) ?_
              refine e_if_eq 123 93 dX8_readsItem_90 (by decide) rfl (fun h90 => ?_) (fun h90 => ?_)
              · refine e_goto 318 dX8_readsItem_123 (by decide) ?_
                refine e_vreturn dX8_readsItem_318 rfl ?_
                exact ⟨rfl, ⟨zSd_near0 c1 s3, f3⟩, rfl, rfl⟩
              · exact absurd rfl h90
  · exact absurd h1 (by decide)

