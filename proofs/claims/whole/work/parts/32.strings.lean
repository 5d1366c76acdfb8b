/-! String constants: their characters; rows on them -/
def zNm : List (List Nat) := [[112, 108, 97, 99, 101], [110, 101, 97, 114], [108, 97, 119], [115, 116, 97, 114, 116], [119, 111, 114, 100], [112, 108, 97, 105, 110]]
def zNc (k j : Nat) : Nat := (zNm.getD k []).getD j 0
def zNl (k : Nat) : Nat := zLenS.getD k 0
theorem zNc_ok : ∀ k, k < 6 → ∀ j, j < zNl k → (zBytS.getD k []).getD j 0 = nI (zNc k j) ∧ zNc k j < 128 ∧ 96 < zNc k j := by decide +kernel
theorem zNl_le : ∀ k, k < 6 → 3 ≤ zNl k ∧ zNl k ≤ 5 := by decide +kernel
theorem zNc_and : ∀ b, b < 128 → nI b &&& nI 255 = nI b := by decide +kernel
theorem zNar_c : ∀ b, b < 256 → narrow .char (.int (nI b)) = .int (nI b) := by
  intro b h
  have e : ∀ b, b < 256 → (match narrow .char (.int (nI b)) with | .int x => decide (x = nI b) | _ => false) = true := by decide +kernel
  have h1 := e b h
  cases hq : narrow .char (.int (nI b)) <;> rw [hq] at h1 <;> simp at h1
  rw [h1]
theorem zShr_l : ∀ k, k < 6 → nI (zNl k) >>> (nI 0 &&& 31) = nI (zNl k) := by decide +kernel
section ZSTR
variable {G : zG} {R : Room} {QQ : zQQ} {own mn : String} {cc : ByteArray} {nL : Nat} {ret : Option FieldType} {n0 pc : Nat} {L st : List Value} {n : Nat} {mi : zFi} {ml : zFl} {mr : zFr}
variable {d np idx nL' n' : Nat} {y : MethodName} {cc' : ByteArray} {ret' : Option FieldType} {As rest : List Value} {Q : zQ}
theorem e_ldcS (pc' k : Nat) (hd : decode cc pc = .ok (.ldc idx, 2)) (hi : zStI k = idx) (hp : pc + 2 = pc') (hk : k < 6) (hown9 : own = RX4) (kk : zE G R QQ own mn cc nL ret n0 pc' L (.ref (1000 + k) :: st) n mi ml mr) : zE G R QQ own mn cc nL ret n0 pc L st n mi ml mr := by
  intro p e s m args below meth c H locs ls hC hR hL hn
  subst hp
  subst hi
  subst hown9
  have K := kk p e s m args below meth c H locs ls hC hR hL hn
  obtain ⟨hx, hb, hrt, hml, hown, hts, hlk, hmn, hsz, had, hns, hout⟩ := hC
  exact va_ldcS hx hb hown (hns.2 k hk) hd K
theorem e_strV (pc' k : Nat) (hd : decode cc pc = .ok (.getfield idx, 3)) (hl : Cond.fieldLink own idx "java/lang/String" "value" "[B" ∈ zT) (hp : pc + 3 = pc') (hk : k < 6) (kk : zE G R QQ own mn cc nL ret n0 pc' L (.ref (2000 + k) :: st) n mi ml mr) : zE G R QQ own mn cc nL ret n0 pc L (.ref (1000 + k) :: st) n mi ml mr := by
  intro p e s m args below meth c H locs ls hC hR hL hn
  subst hp
  have K := kk p e s m args below meth c H locs ls hC hR hL hn
  obtain ⟨hx, hb, hrt, hml, hown, hts, hlk, hmn, hsz, had, hns, hout⟩ := hC
  exact vk_getf hx hb ((hout.2.2.2.1.1 k hk).2.2.1) hR.1 hown (hts _ hl) (fun x h => h) hd K
theorem e_strC (pc' k : Nat) (hd : decode cc pc = .ok (.getfield idx, 3)) (hl : Cond.fieldLink own idx "java/lang/String" "coder" "B" ∈ zT) (hp : pc + 3 = pc') (hk : k < 6) (kk : zE G R QQ own mn cc nL ret n0 pc' L (.int (nI 0) :: st) n mi ml mr) : zE G R QQ own mn cc nL ret n0 pc L (.ref (1000 + k) :: st) n mi ml mr := by
  intro p e s m args below meth c H locs ls hC hR hL hn
  subst hp
  have K := kk p e s m args below meth c H locs ls hC hR hL hn
  obtain ⟨hx, hb, hrt, hml, hown, hts, hlk, hmn, hsz, had, hns, hout⟩ := hC
  exact vk_getf hx hb ((hout.2.2.2.1.1 k hk).2.1) hR.1 hown (hts _ hl) (fun x h => h) hd K
theorem e_strL (pc' k : Nat) (hd : decode cc pc = .ok (.arraylength, 1)) (hp : pc + 1 = pc') (hk : k < 6) (kk : zE G R QQ own mn cc nL ret n0 pc' L (.int (nI (zNl k)) :: st) n mi ml mr) : zE G R QQ own mn cc nL ret n0 pc L (.ref (2000 + k) :: st) n mi ml mr := by
  intro p e s m args below meth c H locs ls hC hR hL hn
  subst hp
  have K := kk p e s m args below meth c H locs ls hC hR hL hn
  obtain ⟨hx, hb, hrt, hml, hown, hts, hlk, hmn, hsz, had, hns, hout⟩ := hC
  exact va_tlen hx hb ((hout.2.2.2.1.1 k hk).2.2.2) hR.1 rfl hd K
theorem e_strB (pc' k j : Nat) (hd : decode cc pc = .ok (.baload, 1)) (hp : pc + 1 = pc') (hk : k < 6) (hj : j < zNl k) (kk : zE G R QQ own mn cc nL ret n0 pc' L (.int (nI (zNc k j)) :: st) n mi ml mr) : zE G R QQ own mn cc nL ret n0 pc L (.int (nI j) :: .ref (2000 + k) :: st) n mi ml mr := by
  intro p e s m args below meth c H locs ls hC hR hL hn
  subst hp
  have K := kk p e s m args below meth c H locs ls hC hR hL hn
  obtain ⟨hx, hb, hrt, hml, hown, hts, hlk, hmn, hsz, had, hns, hout⟩ := hC
  have h5 := (zNl_le k hk).2
  have hc : (nI j).toNatClampNeg = j := nI_clamp (by omega)
  refine va_tb hx hb ((hout.2.2.2.1.1 k hk).2.2.2) hR.1 (vp_in_nI hj (by show zNl k < _; omega)) (v := .int (nI (zNc k j))) ?_ hd K
  rw [hc]
  exact congrArg Value.int (zNc_ok k hk j hj).1
theorem e_comp (pc' : Nat) (hd : decode cc pc = .ok (.getstatic idx, 3)) (hl : Cond.fieldLink own idx "java/lang/String" "COMPACT_STRINGS" "Z" ∈ zT) (hp : pc + 3 = pc') (kk : zE G R QQ own mn cc nL ret n0 pc' L (.int (nI 1) :: st) n mi ml mr) : zE G R QQ own mn cc nL ret n0 pc L st n mi ml mr := by
  intro p e s m args below meth c H locs ls hC hR hL hn
  subst hp
  have K := kk p e s m args below meth c H locs ls hC hR hL hn
  obtain ⟨hx, hb, hrt, hml, hown, hts, hlk, hmn, hsz, had, hns, hout⟩ := hC
  exact va_gets hx hb hout.2.2.2.2.1 hR.1 hown (hts _ hl) (fun x h => h) hd K
theorem e_sio (pc' : Nat) (hd : decode cc pc = .ok (.getstatic idx, 3)) (hl : Cond.fieldLink own idx "jdk/internal/util/Preconditions" "SIOOBE_FORMATTER" "Ljava/util/function/BiFunction;" ∈ zT) (hp : pc + 3 = pc') (kk : ∀ v, v = .null ∨ v = .ref 3001 → zE G R QQ own mn cc nL ret n0 pc' L (v :: st) n mi ml mr) : zE G R QQ own mn cc nL ret n0 pc L st n mi ml mr := by
  intro p e s m args below meth c H locs ls hC hR hL hn
  subst hp
  have K1 := kk .null (Or.inl rfl) p e s m args below meth c H locs ls hC hR hL hn
  have K2 := kk (.ref 3001) (Or.inr rfl) p e s m args below meth c H locs ls hC hR hL hn
  obtain ⟨hx, hb, hrt, hml, hown, hts, hlk, hmn, hsz, had, hns, hout⟩ := hC
  rcases hout.2.2.2.2.2.1 with h | h
  · exact va_gets hx hb h hR.1 hown (hts _ hl) (fun x h => h) hd K1
  · exact va_gets hx hb h hR.1 hown (hts _ hl) (fun x h => h) hd K2
theorem e_callVS {k9 : Nat} (hk9 : k9 < 6) (hd : decode cc pc = .ok (.invokevirtual idx, 3)) (hM : zMet G d y cc' nL' ret' (.ref (1000 + k9) :: As) n mi ml mr n' Q) (hl : zML own idx y cc' nL' ret' np) (hin : Cond.instanceMethod y ∈ zT) (hse : Cond.selects y.cls y y ∈ zT) (hcl : y.cls = "java/lang/String") (hn9 : As.length = np) (hstk : st = As.reverse ++ .ref (1000 + k9) :: rest) (hW : (rest.map fun v => v.category).sum ≤ 8) (hR1 : d + 1 ≤ R.frames) (hR2 : 8 + (nL' + 11) + 40 * d ≤ R.locals) (hnn : n ≤ n') (hn1 : n ≤ 1000) (hc : n' - n0 ≤ R.cells) (hs : zSl n' - zSl n0 ≤ R.slots)
    (k : ∀ r mi' ml' mr', Q r mi' ml' mr' → zE G R QQ own mn cc nL ret n0 (pc + 3) L (r.toList ++ rest) n' mi' ml' mr') : zE G R QQ own mn cc nL ret n0 pc L st n mi ml mr := by
  intro p e s m args below meth c H locs ls hC hR hL hn T hT X
  have hH := zSize hC hR hn hn1 hT rfl X
  have hC0 := hC
  obtain ⟨hx, hb, hrt, hml, hown, hts, hlk, hmn, hsz, had, hns, hout⟩ := hC
  obtain ⟨l1, l2, l3, l4, l5⟩ := hl
  have hgood := zT_good l2
  have hpay := pay_in hts hgood
  have hle1 := zSl_le hn
  have hle2 := zSl_le hnn
  have hrecv : ∃ cell : Cell, H[zad G (1000 + k9)]? = some cell ∧ cell.vm.isStatics = false ∧ s.vm.findClass y.cls = some cell.cls := by
    rw [hcl]
    exact vk_recv (adK := fun k => zad G (1000 + k)) (i := k9) hout.2.2.2.1 hk9 hR.1
  have hpre : PreV s H y.cls (zad G (1000 + k9)) (va_Pc ((Value.ref (1000 + k9) :: As).map (zTv (zad G))) (zPre G n mi ml mr)) (As.map (zTv (zad G))) := ⟨zPre_blind, hrecv, fun U hU hW => ⟨rfl, zPre_of hC0 hR hH U hU hW⟩⟩
  have hstk2 : (F0 m pc ls (st.map (zTv (zad G)))).stack = (As.map (zTv (zad G))).reverse ++ .ref (zad G (1000 + k9)) :: rest.map (zTv (zad G)) := by rw [hstk, List.map_append, List.map_reverse]; rfl
  have hlen : ∀ sig, parseMethodDescriptor y.desc = some sig → np = sig.parameters.length := fun sig h => by
    rw [h] at l5
    exact (Option.some.inj l5).symm
  have hW2 : 2 * (F0 m pc ls (st.map (zTv (zad G)))).monitorRoom + ((rest.map (zTv (zad G))).map fun v => v.category).sum ≤ 8 := lv_room (by rw [zTv_cats]; exact hW)
  refine z_after (a := (Value.ref (zad G (1000 + k9)) :: As.map (zTv (zad G))).toArray) hC0 hR hL hn hnn ?_ hT X k
  rcases l1 with hw | ⟨h, hw⟩
  · exact va_runV (Ts := zT) ⟨hx, hb, hml, hown, hts⟩ hM ⟨⟨rfl, rfl, hR1, hR2, hpay, List.mem_cons_self, hts _ l2, hts _ l3, l4, hlen, hts _ hw⟩, hts _ hin, hts _ hse⟩ hpre rfl (by rw [List.length_map]; exact hn9) hL.1 hstk2 hW2 hd ⟨by omega, by omega⟩
  · exact va_runVN (Ts := zT) ⟨hx, hb, hml, hown, hts⟩ hM ⟨⟨⟨rfl, rfl, hR1, hR2, hpay, List.mem_cons_self⟩, hts _ l2, hts _ l3, l4, hlen, hns.use hw⟩, hts _ hin, hts _ hse⟩ hpre rfl (by rw [List.length_map]; exact hn9) hL.1 hstk2 hW2 hd ⟨by omega, by omega⟩
theorem c_VSq (pc' : Nat) {k9 : Nat} {x : Int32} (hk9 : k9 < 6) (hd : decode cc pc = .ok (.invokevirtual idx, 3)) (hM : zMet G d y cc' nL' ret' (.ref (1000 + k9) :: As) 238 mi ml mr 238 (zPq (some (.int x)) mi ml mr)) (hl : zML own idx y cc' nL' ret' np) (hin : Cond.instanceMethod y ∈ zT) (hse : Cond.selects y.cls y y ∈ zT) (hcl : y.cls = "java/lang/String") (hp : pc + 3 = pc') (hn9 : As.length = np) (hstk : st = As.reverse ++ .ref (1000 + k9) :: rest) (hW : (rest.map fun v => v.category).sum ≤ 8) (hR1 : d + 1 ≤ R.frames) (hR2 : 8 + (nL' + 11) + 40 * d ≤ R.locals) (hc : 238 - n0 ≤ R.cells) (hs : zSl 238 - zSl n0 ≤ R.slots) (k : zE G R QQ own mn cc nL ret n0 pc' L (.int x :: rest) 238 mi ml mr) : zE G R QQ own mn cc nL ret n0 pc L st 238 mi ml mr := by
  subst hp
  refine e_callVS hk9 hd hM hl hin hse hcl hn9 hstk hW hR1 hR2 (Nat.le_refl _) (by decide) hc hs ?_
  rintro _ _ _ _ ⟨rfl, rfl, rfl, rfl⟩
  exact k
end ZSTR
theorem lcomp : Cond.fieldLink RJ0 38 "java/lang/String" "COMPACT_STRINGS" "Z" ∈ zT := zT_i2 113 (by decide +kernel) rfl
theorem lsio : Cond.fieldLink RJ0 1053 "jdk/internal/util/Preconditions" "SIOOBE_FORMATTER" "Ljava/util/function/BiFunction;" ∈ zT := zT_i2 129 (by decide +kernel) rfl
theorem lval : Cond.fieldLink RJ0 9 "java/lang/String" "value" "[B" ∈ zT := zT_i5 210 (by decide +kernel) rfl
theorem lcod : Cond.fieldLink RJ0 15 "java/lang/String" "coder" "B" ∈ zT := zT_i5 211 (by decide +kernel) rfl
set_option maxHeartbeats 4000000 in
set_option maxRecDepth 100000 in
theorem k_J0_coder_7d493 (G : zG) {k : Nat} (hk : k < 6) {mi : zFi} {ml : zFl} {mr : zFr} : zMet G 0 yJ0_coder_7d493 cJ0_coder_7d493 1 (some .byte) [.ref (1000 + k)] 238 mi ml mr 238 (zPq (some (.int (nI 0))) mi ml mr) := by
  refine z_intro ([.ref (1000 + k)]) (by decide) rfl (Nat.le_of_ble_eq_true rfl) ?_
  refine e_comp 3 dJ0_coder_7d493_0 lcomp rfl ?_
  refine e_if_eqN 13 6 dJ0_coder_7d493_3 (by decide) rfl (by omega) (fun h3 => ?_) (fun h3 => ?_)
  · exact absurd h3 (by omega)
  · refine e_aload_n 7 dJ0_coder_7d493_6 rfl rfl ?_
    refine e_strC 10 k dJ0_coder_7d493_7 lcod rfl hk ?_
    refine e_goto 14 dJ0_coder_7d493_10 (by decide) ?_
    refine e_ireturn .byte dJ0_coder_7d493_14 rfl rfl ?_
    exact ⟨rfl, rfl, rfl, rfl⟩

set_option maxHeartbeats 4000000 in
set_option maxRecDepth 100000 in
theorem k_J0_isLatin1_aae02 (G : zG) {k : Nat} (hk : k < 6) {mi : zFi} {ml : zFl} {mr : zFr} : zMet G 0 yJ0_isLatin1_aae02 cJ0_isLatin1_aae02 1 (some .boolean) [.ref (1000 + k)] 238 mi ml mr 238 (zPq (some (.int (nI 1))) mi ml mr) := by
  refine z_intro ([.ref (1000 + k)]) (by decide) rfl (Nat.le_of_ble_eq_true rfl) ?_
  refine e_comp 3 dJ0_isLatin1_aae02_0 lcomp rfl ?_
  refine e_if_eqN 17 6 dJ0_isLatin1_aae02_3 (by decide) rfl (by omega) (fun h3 => ?_) (fun h3 => ?_)
  · exact absurd h3 (by omega)
  · refine e_aload_n 7 dJ0_isLatin1_aae02_6 rfl rfl ?_
    refine e_strC 10 k dJ0_isLatin1_aae02_7 lcod rfl hk ?_
    refine e_if_neN 17 13 dJ0_isLatin1_aae02_10 (by decide) rfl (by omega) (fun h10 => ?_) (fun h10 => ?_)
    · exact absurd h10 (by omega)
    · refine e_iconst 14 hic_1 dJ0_isLatin1_aae02_13 rfl ?_
      refine e_goto 18 dJ0_isLatin1_aae02_14 (by decide) ?_
      refine e_ireturn .boolean dJ0_isLatin1_aae02_18 rfl rfl ?_
      exact ⟨rfl, rfl, rfl, rfl⟩

set_option maxHeartbeats 4000000 in
set_option maxRecDepth 100000 in
theorem k_J0_length_8abf5 (G : zG) {k : Nat} (hk : k < 6) {mi : zFi} {ml : zFl} {mr : zFr} : zMet G 1 yJ0_length_8abf5 cJ0_length_8abf5 1 (some .int) [.ref (1000 + k)] 238 mi ml mr 238 (zPq (some (.int (nI (zNl k)))) mi ml mr) := by
  refine z_intro ([.ref (1000 + k)]) (by decide) rfl (Nat.le_of_ble_eq_true rfl) ?_
  refine e_aload_n 1 dJ0_length_8abf5_0 rfl rfl ?_
  refine e_strV 4 k dJ0_length_8abf5_1 lval rfl hk ?_
  refine e_strL 5 k dJ0_length_8abf5_4 rfl hk ?_
  refine e_aload_n 6 dJ0_length_8abf5_5 rfl rfl ?_
  refine c_VSq 9 hk dJ0_length_8abf5_6 (k_J0_coder_7d493 G hk) lm_J0_335 zi_yJ0_coder_7d493 zs_yJ0_coder_7d493 rfl rfl rfl rfl (Nat.le_of_ble_eq_true rfl) (Nat.le_of_ble_eq_true rfl) (Nat.le_of_ble_eq_true rfl) (by exact Nat.le_refl _) (by exact Nat.le_refl _) ?_
  refine e_ishr 10 dJ0_length_8abf5_9 rfl ?_
  rw [zShr_l k hk]
  refine e_ireturn .int dJ0_length_8abf5_10 rfl rfl ?_
  exact ⟨rfl, rfl, rfl, rfl⟩

set_option maxHeartbeats 4000000 in
set_option maxRecDepth 100000 in
theorem k_J3_checkIndex_8e1570 (G : zG) {i n9 : Nat} (hi : i < n9) (hn : n9 < 2 ^ 31) {mi : zFi} {ml : zFl} {mr : zFr} : zMet G 0 yJ3_checkIndex_8e157 cJ3_checkIndex_8e157 3 (some .int) [.int (nI i), .int (nI n9), .null] 238 mi ml mr 238 (zPq (some (.int (nI i))) mi ml mr) := by
  refine z_intro ([.int (nI i), .int (nI n9), .null]) (by decide) rfl (Nat.le_of_ble_eq_true rfl) ?_
  refine e_iload_n 1 dJ3_checkIndex_8e157_0 rfl rfl ?_
  refine e_if_ltN 9 4 dJ3_checkIndex_8e157_1 (by decide) rfl (by omega) (fun h1 => ?_) (fun h1 => ?_)
  · exact h1.elim
  · refine e_iload_n 5 dJ3_checkIndex_8e157_4 rfl rfl ?_
    refine e_iload_n 6 dJ3_checkIndex_8e157_5 rfl rfl ?_
    refine e_icmp_ltN 16 9 dJ3_checkIndex_8e157_6 (by decide) rfl (by omega) (by omega) (fun h6 => ?_) (fun h6 => ?_)
    · refine e_iload_n 17 dJ3_checkIndex_8e157_16 rfl rfl ?_
      refine e_ireturn .int dJ3_checkIndex_8e157_17 rfl rfl ?_
      exact ⟨rfl, rfl, rfl, rfl⟩
    · exact absurd h6 (by omega)

set_option maxHeartbeats 4000000 in
set_option maxRecDepth 100000 in
theorem k_J3_checkIndex_8e1571 (G : zG) {i n9 : Nat} (hi : i < n9) (hn : n9 < 2 ^ 31) {mi : zFi} {ml : zFl} {mr : zFr} : zMet G 0 yJ3_checkIndex_8e157 cJ3_checkIndex_8e157 3 (some .int) [.int (nI i), .int (nI n9), .ref 3001] 238 mi ml mr 238 (zPq (some (.int (nI i))) mi ml mr) := by
  refine z_intro ([.int (nI i), .int (nI n9), .ref 3001]) (by decide) rfl (Nat.le_of_ble_eq_true rfl) ?_
  refine e_iload_n 1 dJ3_checkIndex_8e157_0 rfl rfl ?_
  refine e_if_ltN 9 4 dJ3_checkIndex_8e157_1 (by decide) rfl (by omega) (fun h1 => ?_) (fun h1 => ?_)
  · exact h1.elim
  · refine e_iload_n 5 dJ3_checkIndex_8e157_4 rfl rfl ?_
    refine e_iload_n 6 dJ3_checkIndex_8e157_5 rfl rfl ?_
    refine e_icmp_ltN 16 9 dJ3_checkIndex_8e157_6 (by decide) rfl (by omega) (by omega) (fun h6 => ?_) (fun h6 => ?_)
    · refine e_iload_n 17 dJ3_checkIndex_8e157_16 rfl rfl ?_
      refine e_ireturn .int dJ3_checkIndex_8e157_17 rfl rfl ?_
      exact ⟨rfl, rfl, rfl, rfl⟩
    · exact absurd h6 (by omega)

set_option maxHeartbeats 4000000 in
set_option maxRecDepth 100000 in
theorem k_J0_checkIndex_df160 (G : zG) {i n9 : Nat} (hi : i < n9) (hn : n9 < 2 ^ 31) {mi : zFi} {ml : zFl} {mr : zFr} : zMet G 1 yJ0_checkIndex_df160 cJ0_checkIndex_df160 2 none [.int (nI i), .int (nI n9)] 238 mi ml mr 238 (zPq none mi ml mr) := by
  refine z_intro ([.int (nI i), .int (nI n9)]) (by decide) rfl (Nat.le_of_ble_eq_true rfl) ?_
  refine e_iload_n 1 dJ0_checkIndex_df160_0 rfl rfl ?_
  refine e_iload_n 2 dJ0_checkIndex_df160_1 rfl rfl ?_
  refine e_sio 5 dJ0_checkIndex_df160_2 lsio rfl (fun v hv => ?_)
  have hM : zMet G 0 yJ3_checkIndex_8e157 cJ3_checkIndex_8e157 3 (some .int) [.int (nI i), .int (nI n9), v] 238 mi ml mr 238 (zPq (some (.int (nI i))) mi ml mr) := by rcases hv with rfl | rfl <;> first | exact k_J3_checkIndex_8e1570 G hi hn | exact k_J3_checkIndex_8e1571 G hi hn
  refine c_Sqi 8 dJ0_checkIndex_df160_5 (hM) lm_J0_1059 zt_yJ3_checkIndex_8e157 rfl rfl rfl (Nat.le_of_ble_eq_true rfl) (Nat.le_of_ble_eq_true rfl) (Nat.le_of_ble_eq_true rfl) (by exact Nat.le_refl _) (by exact Nat.le_refl _) ?_
  refine e_pop 9 dJ0_checkIndex_df160_8 rfl rfl ?_
  refine e_vreturn dJ0_checkIndex_df160_9 rfl ?_
  exact ⟨rfl, rfl, rfl, rfl⟩

set_option maxHeartbeats 4000000 in
set_option maxRecDepth 100000 in
theorem k_J1_charAt_3b067 (G : zG) {k j : Nat} (hk : k < 6) (hj : j < zNl k) {mi : zFi} {ml : zFl} {mr : zFr} : zMet G 2 yJ1_charAt_3b067 cJ1_charAt_3b067 2 (some .char) [.ref (2000 + k), .int (nI j)] 238 mi ml mr 238 (zPq (some (.int (nI (zNc k j)))) mi ml mr) := by
  refine z_intro ([.ref (2000 + k), .int (nI j)]) (by decide) rfl (Nat.le_of_ble_eq_true rfl) ?_
  refine e_iload_n 1 dJ1_charAt_3b067_0 rfl rfl ?_
  refine e_aload_n 2 dJ1_charAt_3b067_1 rfl rfl ?_
  refine e_strL 3 k dJ1_charAt_3b067_2 rfl hk ?_
  refine c_Sqv 6 dJ1_charAt_3b067_3 (k_J0_checkIndex_df160 G hj (by have := (zNl_le k hk).2; omega)) lm_J1_9 zt_yJ0_checkIndex_df160 rfl rfl rfl (Nat.le_of_ble_eq_true rfl) (Nat.le_of_ble_eq_true rfl) (Nat.le_of_ble_eq_true rfl) (by exact Nat.le_refl _) (by exact Nat.le_refl _) ?_
  refine e_aload_n 7 dJ1_charAt_3b067_6 rfl rfl ?_
  refine e_iload_n 8 dJ1_charAt_3b067_7 rfl rfl ?_
  refine e_strB 9 k j dJ1_charAt_3b067_8 rfl hk hj ?_
  refine e_sipush 12 hsi_255 dJ1_charAt_3b067_9 rfl ?_
  refine e_iand 13 dJ1_charAt_3b067_12 rfl ?_
  rw [zNc_and _ (zNc_ok k hk j hj).2.1]
  refine e_i2c 14 dJ1_charAt_3b067_13 rfl ?_
  rw [zBy_c _ (by have := (zNc_ok k hk j hj).2.1; omega)]
  refine e_ireturn .char dJ1_charAt_3b067_14 rfl (zNar_c _ (by have := (zNc_ok k hk j hj).2.1; omega)) ?_
  exact ⟨rfl, rfl, rfl, rfl⟩

set_option maxHeartbeats 4000000 in
set_option maxRecDepth 100000 in
theorem k_J0_charAt_5068e (G : zG) {k j : Nat} (hk : k < 6) (hj : j < zNl k) {mi : zFi} {ml : zFl} {mr : zFr} : zMet G 3 yJ0_charAt_5068e cJ0_charAt_5068e 2 (some .char) [.ref (1000 + k), .int (nI j)] 238 mi ml mr 238 (zPq (some (.int (nI (zNc k j)))) mi ml mr) := by
  refine z_intro ([.ref (1000 + k), .int (nI j)]) (by decide) rfl (Nat.le_of_ble_eq_true rfl) ?_
  refine e_aload_n 1 dJ0_charAt_5068e_0 rfl rfl ?_
  refine c_VSq 4 hk dJ0_charAt_5068e_1 (k_J0_isLatin1_aae02 G hk) lm_J0_492 zi_yJ0_isLatin1_aae02 zs_yJ0_isLatin1_aae02 rfl rfl rfl rfl (Nat.le_of_ble_eq_true rfl) (Nat.le_of_ble_eq_true rfl) (Nat.le_of_ble_eq_true rfl) (by exact Nat.le_refl _) (by exact Nat.le_refl _) ?_
  refine e_if_eqN 16 7 dJ0_charAt_5068e_4 (by decide) rfl (by omega) (fun h4 => ?_) (fun h4 => ?_)
  · exact absurd h4 (by omega)
  · refine e_aload_n 8 dJ0_charAt_5068e_7 rfl rfl ?_
    refine e_strV 11 k dJ0_charAt_5068e_8 lval rfl hk ?_
    refine e_iload_n 12 dJ0_charAt_5068e_11 rfl rfl ?_
    refine c_Sqi 15 dJ0_charAt_5068e_12 (k_J1_charAt_3b067 G hk hj) lm_J0_495 zt_yJ1_charAt_3b067 rfl rfl rfl (Nat.le_of_ble_eq_true rfl) (Nat.le_of_ble_eq_true rfl) (Nat.le_of_ble_eq_true rfl) (by exact Nat.le_refl _) (by exact Nat.le_refl _) ?_
    refine e_ireturn .char dJ0_charAt_5068e_15 rfl (zNar_c _ (by have := (zNc_ok k hk j hj).2.1; omega)) ?_
    exact ⟨rfl, rfl, rfl, rfl⟩

