section STR
variable {w : WT} {P : Option Value → HS → Prop} {d : Nat} {mi : MI} {k : KT} {pc : Nat} {L : List (Option Value)} {st : List Value} {h : HS}
theorem aw_ldcS (K : AOK w mi k) {i : Nat} (hi : i < 11) (hm : mi.1.cls = "ManyNames$Tape") (hd : decode mi.2.1 pc = .ok (.ldc (91 + 2 * i), 2)) (n : AW w P d mi k (pc + 2) L (.ref (w.2.2.2 (3 + i)) :: st) h) : AW w P d mi k pc L st h := by
  obtain ⟨p, e, s, m, args, below, meth, c, A⟩ := k
  obtain ⟨k1, k2, k3, k4, k5, k6, k7, k8, k9, k10, k11⟩ := K
  exact fun H lo la a1 a2 a3 a4 => va_ldcS k1 k2 (own := "ManyNames$Tape") (hm ▸ k4) (k11.2.2.2.1 i hi).1 hd (n H lo la a1 a2 a3 a4)
theorem aw_gCS (K : AOK w mi k) {index : Nat} (hl : Cond.fieldLink mi.1.cls index "java/lang/String" "COMPACT_STRINGS" "Z" ∈ aw_tb) (hd : decode mi.2.1 pc = .ok (.getstatic index, 3)) (n : AW w P d mi k (pc + 3) L (.int 1 :: st) h) : AW w P d mi k pc L st h := by
  obtain ⟨p, e, s, m, args, below, meth, c, A⟩ := k
  obtain ⟨k1, k2, k3, k4, k5, k6, k7, k8, k9, k10, k11⟩ := K
  exact fun H lo la a1 a2 a3 a4 => va_gets k1 k2 k11.2.2.2.2.1 a4 k4 (k5 _ (List.mem_cons_of_mem _ hl)) (fun _ hx => hx) hd (n H lo la a1 a2 a3 a4)
theorem aw_gSF (K : AOK w mi k) {index : Nat} (hl : Cond.fieldLink mi.1.cls index "jdk/internal/util/Preconditions" "SIOOBE_FORMATTER" "Ljava/util/function/BiFunction;" ∈ aw_tb) (hd : decode mi.2.1 pc = .ok (.getstatic index, 3)) (n : AW w P d mi k (pc + 3) L (aw_sv w.2.2.2 :: st) h) : AW w P d mi k pc L st h := by
  obtain ⟨p, e, s, m, args, below, meth, c, A⟩ := k
  obtain ⟨k1, k2, k3, k4, k5, k6, k7, k8, k9, k10, k11⟩ := K
  exact fun H lo la a1 a2 a3 a4 => va_gets k1 k2 k11.2.2.2.2.2 a4 k4 (k5 _ (List.mem_cons_of_mem _ hl)) (fun _ hx => hx) hd (n H lo la a1 a2 a3 a4)
theorem aw_sCo (K : AOK w mi k) {index i : Nat} (hi : i < 11) (hl : Cond.fieldLink mi.1.cls index "java/lang/String" "coder" "B" ∈ aw_tb) (hd : decode mi.2.1 pc = .ok (.getfield index, 3)) (n : AW w P d mi k (pc + 3) L (.int 0 :: st) h) : AW w P d mi k pc L (.ref (w.2.2.2 (3 + i)) :: st) h := by
  obtain ⟨p, e, s, m, args, below, meth, c, A⟩ := k
  obtain ⟨k1, k2, k3, k4, k5, k6, k7, k8, k9, k10, k11⟩ := K
  exact fun H lo la a1 a2 a3 a4 => vk_getf k1 k2 (k11.2.2.2.1 i hi).2.2.1 a4 k4 (k5 _ (List.mem_cons_of_mem _ hl)) (fun _ hx => hx) hd (n H lo la a1 a2 a3 a4)
theorem aw_sVa (K : AOK w mi k) {index i : Nat} (hi : i < 11) (hl : Cond.fieldLink mi.1.cls index "java/lang/String" "value" "[B" ∈ aw_tb) (hd : decode mi.2.1 pc = .ok (.getfield index, 3)) (n : AW w P d mi k (pc + 3) L (.ref (w.2.2.2 (14 + i)) :: st) h) : AW w P d mi k pc L (.ref (w.2.2.2 (3 + i)) :: st) h := by
  obtain ⟨p, e, s, m, args, below, meth, c, A⟩ := k
  obtain ⟨k1, k2, k3, k4, k5, k6, k7, k8, k9, k10, k11⟩ := K
  exact fun H lo la a1 a2 a3 a4 => vk_getf k1 k2 (k11.2.2.2.1 i hi).2.2.2.1 a4 k4 (k5 _ (List.mem_cons_of_mem _ hl)) (fun _ hx => hx) hd (n H lo la a1 a2 a3 a4)
theorem aw_tlen (K : AOK w mi k) {i : Nat} (hi : i < 11) (hd : decode mi.2.1 pc = .ok (.arraylength, 1)) (n : AW w P d mi k (pc + 1) L (.int (nI (aw_tl i)) :: st) h) : AW w P d mi k pc L (.ref (w.2.2.2 (14 + i)) :: st) h := by
  obtain ⟨p, e, s, m, args, below, meth, c, A⟩ := k
  obtain ⟨k1, k2, k3, k4, k5, k6, k7, k8, k9, k10, k11⟩ := K
  exact fun H lo la a1 a2 a3 a4 => va_tlen k1 k2 (k11.2.2.2.1 i hi).2.2.2.2 a4 rfl hd (n H lo la a1 a2 a3 a4)
theorem aw_tbld (K : AOK w mi k) {i : Nat} {x : Int32} (hi : i < 11) (hx : vp_in x (aw_tl i)) (hd : decode mi.2.1 pc = .ok (.baload, 1)) (n : AW w P d mi k (pc + 1) L (.int (aw_tc i x.toNatClampNeg) :: st) h) : AW w P d mi k pc L (.int x :: .ref (w.2.2.2 (14 + i)) :: st) h := by
  obtain ⟨p, e, s, m, args, below, meth, c, A⟩ := k
  obtain ⟨k1, k2, k3, k4, k5, k6, k7, k8, k9, k10, k11⟩ := K
  exact fun H lo la a1 a2 a3 a4 => va_tb k1 k2 (k11.2.2.2.1 i hi).2.2.2.2 a4 hx rfl hd (n H lo la a1 a2 a3 a4)
theorem aw_i2c (K : AOK w mi k) {x : Int32} (hd : decode mi.2.1 pc = .ok (.i2c, 1)) (n : AW w P d mi k (pc + 1) L (.int (x.toUInt32 % 65536).toInt32 :: st) h) : AW w P d mi k pc L (.int x :: st) h := by
  obtain ⟨p, e, s, m, args, below, meth, c, A⟩ := k
  exact fun H lo la a1 a2 a3 a4 => lv_i2c K.1 K.2.1 hd rfl (n H lo la a1 a2 a3 a4)
/-- a call whose receiver is one of the texts -/
theorem aw_callT (K : AOK w mi k) {mi' : MI} {d' index na i : Nat} {As stk : List Value} {P' : Option Value → HS → Prop} (hi : i < 11) (C : CT w d' mi' (.ref (w.2.2.2 (3 + i)) :: As) h P') (hstk : stk = As.reverse ++ .ref (w.2.2.2 (3 + i)) :: st) (hdd : d' < d) (mf : MFv mi' na) (ml : ML mi.1.cls index mi') (hd : decode mi.2.1 pc = .ok (.invokevirtual index, 3)) (hc : mi'.1.cls = "java/lang/String") (hna : As.length = na) (hst : (st.map fun v => v.category).sum ≤ 8)
    (n : ∀ o h', P' o h' → AW w P d mi k (pc + 3) L (o.toList ++ st) h') : AW w P d mi k pc L stk h := by
  subst hstk
  obtain ⟨p, e, s, m, args, below, meth, c, A⟩ := k
  obtain ⟨k1, k2, k3, k4, k5, k6, k7, k8, k9, k10, k11⟩ := K
  intro H lo la a1 a2 a3 a4
  have hr : ∃ cell : Cell, H[w.2.2.2 (3 + i)]? = some cell ∧ cell.vm.isStatics = false ∧ s.vm.findClass mi'.1.cls = some cell.cls := by
    obtain ⟨cell, h1, h2, h3, -⟩ := (k11.2.2.2.1 i hi).2.1.kept a4.2.1
    exact ⟨cell, h1, h2, hc ▸ h3⟩
  refine aw_after (A := A) (va_runV (C := mi'.1.cls) (b := w.2.2.2 (3 + i)) (As := As) (rest := st) (Ts := aw_ws mi) ⟨k1, k2, k3, k4, k5⟩ (C H.size) ⟨aw_cb k5 mf.1 ml hdd, k5 _ (List.mem_cons_of_mem _ mf.2.1), k5 _ (List.mem_cons_of_mem _ mf.2.2)⟩ ⟨aw_blind, hr, aw_pre k8 k9 k10 k11 a2 a3 a4⟩ rfl hna a1.1 rfl (lv_room hst) hd ⟨Nat.le_refl _, Nat.le_refl _⟩) a4 (aw_AB k9 a3 a4) (fun o h' H1 lo1 hp hP1 hS1 => ?_)
  exact n o h' hp H1 lo1 la a1 hP1 (aw_D_eq a3) hS1
theorem aw_nret (K : AOK w mi k) {x : Int32} {ty : FieldType} (hr : mi.2.2.2 = some ty) (hd : decode mi.2.1 pc = .ok (.ireturn, 1)) (hn : narrow ty (.int x) = .int x) (hp : P (some (.int x)) h) : AW w P d mi k pc L [.int x] h := by
  obtain ⟨p, e, s, m, args, below, meth, c, A⟩ := k
  exact fun H lo la a1 a2 a3 a4 => W.zret K.1 K.2.1 (K.2.2.2.2.2.1.trans hr) hn (fun t ht _ => ⟨⟨_, h, rfl, hp, by rw [ht]; exact a2⟩, a4.F ht⟩) a4.2.2 hd K.2.2.2.2.2.2.1
theorem aw_aret (K : AOK w mi k) {a : Nat} {cn : String} (hr : mi.2.2.2 = some (.object cn)) (hd : decode mi.2.1 pc = .ok (.areturn, 1)) (hp : P (some (.ref a)) h) : AW w P d mi k pc L [.ref a] h := by
  obtain ⟨p, e, s, m, args, below, meth, c, A⟩ := k
  exact fun H lo la a1 a2 a3 a4 => W.aret K.1 K.2.1 (K.2.2.2.2.2.1.trans hr) (Or.inl ⟨cn, rfl⟩) (Or.inr ⟨a, rfl⟩) (fun t ht _ => ⟨⟨_, h, rfl, hp, by rw [ht]; exact a2⟩, a4.F ht⟩) a4.2.2 hd K.2.2.2.2.2.2.1
end STR
set_option maxHeartbeats 4000000 in
set_option maxRecDepth 100000 in
theorem tJ0_coder_7d493 (l : Launch) (g : Geo) (sta : Nat → Nat) (h : HS) (i : Nat) (hi : i < 11) : CT (wX l g sta) 1 mJ0_coder_7d493 [.ref (sta (3 + i))] h (DI 0 h) := by
  refine CT.at [some (.ref (sta (3 + i)))] 0 rfl (by decide) (Nat.le_of_ble_eq_true rfl) (fun k K => ?_)
  refine aw_gCS K (aw_in 496 (by decide +kernel) rfl) dJ0_coder_7d493_0 ?_
  refine aw_if_eq (tgt := 13) K dJ0_coder_7d493_3 (by decide) (fun b3 => ?_) (fun b3 => ?_)
  · exact absurd b3 (by decide)
  · refine aw_al0 K dJ0_coder_7d493_6 ?_
    refine aw_sCo K hi (aw_in 1317 (by decide +kernel) rfl) dJ0_coder_7d493_7 ?_
    refine aw_goto (tgt := 14) K dJ0_coder_7d493_10 (by decide) ?_
    refine aw_nret K rfl dJ0_coder_7d493_14 (by decide) ?_
    exact ⟨rfl, rfl⟩

set_option maxHeartbeats 4000000 in
set_option maxRecDepth 100000 in
theorem tJ0_isLatin1_aae02 (l : Launch) (g : Geo) (sta : Nat → Nat) (h : HS) (i : Nat) (hi : i < 11) : CT (wX l g sta) 1 mJ0_isLatin1_aae02 [.ref (sta (3 + i))] h (DI 1 h) := by
  refine CT.at [some (.ref (sta (3 + i)))] 0 rfl (by decide) (Nat.le_of_ble_eq_true rfl) (fun k K => ?_)
  refine aw_gCS K (aw_in 496 (by decide +kernel) rfl) dJ0_isLatin1_aae02_0 ?_
  refine aw_if_eq (tgt := 17) K dJ0_isLatin1_aae02_3 (by decide) (fun b3 => ?_) (fun b3 => ?_)
  · exact absurd b3 (by decide)
  · refine aw_al0 K dJ0_isLatin1_aae02_6 ?_
    refine aw_sCo K hi (aw_in 1317 (by decide +kernel) rfl) dJ0_isLatin1_aae02_7 ?_
    refine aw_if_ne (tgt := 17) K dJ0_isLatin1_aae02_10 (by decide) (fun b10 => ?_) (fun b10 => ?_)
    · exact absurd rfl b10
    · refine aw_iconst (v := 1) K dJ0_isLatin1_aae02_13 (by decide) ?_
      refine aw_goto (tgt := 18) K dJ0_isLatin1_aae02_14 (by decide) ?_
      refine aw_zret K rfl dJ0_isLatin1_aae02_18 (by first | rfl | exact bI_nar _) ?_
      exact ⟨rfl, rfl⟩

theorem tl_sh {i : Nat} (hi : i < 11) : nI (aw_tl i) >>> ((0 : Int32) &&& 31) = nI (aw_tl i) := by
  have q : ∀ a : Fin 11, nI (aw_tl a.1) >>> ((0 : Int32) &&& 31) = nI (aw_tl a.1) := by decide +kernel
  exact q ⟨i, hi⟩
theorem tl_6 {i : Nat} (hi : i < 11) : aw_tl i ≤ 6 := by
  have q : ∀ a : Fin 11, aw_tl a.1 ≤ 6 := by decide +kernel
  exact q ⟨i, hi⟩
theorem tc_ch {i j : Nat} (hi : i < 11) (hj : j < 6) : ((aw_tc i j &&& 255).toUInt32 % 65536).toInt32 = aw_tc i j ∧ narrow .char (.int (aw_tc i j)) = .int (aw_tc i j) := by
  have q : ∀ a : Fin 11, ∀ b : Fin 6, ((aw_tc a.1 b.1 &&& 255).toUInt32 % 65536).toInt32 = aw_tc a.1 b.1 ∧ narrow .char (.int (aw_tc a.1 b.1)) = .int (aw_tc a.1 b.1) := by decide +kernel
  exact q ⟨i, hi⟩ ⟨j, hj⟩
set_option maxHeartbeats 4000000 in
set_option maxRecDepth 100000 in
theorem tJ0_length_8abf5 (l : Launch) (g : Geo) (sta : Nat → Nat) (h : HS) (i : Nat) (hi : i < 11) : CT (wX l g sta) 2 mJ0_length_8abf5 [.ref (sta (3 + i))] h (DI (nI (aw_tl i)) h) := by
  refine CT.at [some (.ref (sta (3 + i)))] 0 rfl (by decide) (Nat.le_of_ble_eq_true rfl) (fun k K => ?_)
  refine aw_al0 K dJ0_length_8abf5_0 ?_
  refine aw_sVa K hi (aw_in 1316 (by decide +kernel) rfl) dJ0_length_8abf5_1 ?_
  refine aw_tlen K hi dJ0_length_8abf5_4 ?_
  refine aw_al0 K dJ0_length_8abf5_5 ?_
  refine aw_callT K hi (tJ0_coder_7d493 l g sta _ i hi) rfl (by decide) fJ0_coder_7d493 lJ0_335 dJ0_length_8abf5_6 rfl rfl (Nat.le_of_ble_eq_true rfl) (fun o h2 hq => ?_)
  obtain ⟨rfl, rfl⟩ := hq
  refine (show AW _ _ _ _ _ _ _ (.int _ :: _) _ from ?_)
  refine aw_ishr K dJ0_length_8abf5_9 ?_
  rw [tl_sh hi]
  refine aw_iret K rfl dJ0_length_8abf5_10 ?_
  exact ⟨rfl, rfl⟩

set_option maxHeartbeats 4000000 in
set_option maxRecDepth 100000 in
theorem tJ3_checkIndex_8e157 (l : Launch) (g : Geo) (sta : Nat → Nat) (h : HS) (x n : Int32) (a : Nat) (h0 : ¬ x < 0) (h1 : x < n) : CT (wX l g sta) 1 mJ3_checkIndex_8e157 [.int x, .int n, .ref a] h (DI x h) := by
  refine CT.at [some (.int x), some (.int n), some (.ref a)] 0 rfl (by decide) (Nat.le_of_ble_eq_true rfl) (fun k K => ?_)
  refine aw_il0 K dJ3_checkIndex_8e157_0 ?_
  refine aw_if_lt (tgt := 9) K dJ3_checkIndex_8e157_1 (by decide) (fun b1 => ?_) (fun b1 => ?_)
  · exact absurd b1 h0
  · refine aw_il0 K dJ3_checkIndex_8e157_4 ?_
    refine aw_il1 K dJ3_checkIndex_8e157_5 ?_
    refine aw_icmp_lt (tgt := 16) K dJ3_checkIndex_8e157_6 (by decide) (fun b6 => ?_) (fun b6 => ?_)
    · refine aw_il0 K dJ3_checkIndex_8e157_16 ?_
      refine aw_iret K rfl dJ3_checkIndex_8e157_17 ?_
      exact ⟨rfl, rfl⟩
    · exact absurd h1 b6

set_option maxHeartbeats 4000000 in
set_option maxRecDepth 100000 in
theorem tJ3n (l : Launch) (g : Geo) (sta : Nat → Nat) (h : HS) (x n : Int32) (h0 : ¬ x < 0) (h1 : x < n) : CT (wX l g sta) 1 mJ3_checkIndex_8e157 [.int x, .int n, .null] h (DI x h) := by
  refine CT.at [some (.int x), some (.int n), some (.null)] 0 rfl (by decide) (Nat.le_of_ble_eq_true rfl) (fun k K => ?_)
  refine aw_il0 K dJ3_checkIndex_8e157_0 ?_
  refine aw_if_lt (tgt := 9) K dJ3_checkIndex_8e157_1 (by decide) (fun b1 => ?_) (fun b1 => ?_)
  · exact absurd b1 h0
  · refine aw_il0 K dJ3_checkIndex_8e157_4 ?_
    refine aw_il1 K dJ3_checkIndex_8e157_5 ?_
    refine aw_icmp_lt (tgt := 16) K dJ3_checkIndex_8e157_6 (by decide) (fun b6 => ?_) (fun b6 => ?_)
    · refine aw_il0 K dJ3_checkIndex_8e157_16 ?_
      refine aw_iret K rfl dJ3_checkIndex_8e157_17 ?_
      exact ⟨rfl, rfl⟩
    · exact absurd h1 b6

set_option maxHeartbeats 4000000 in
set_option maxRecDepth 100000 in
theorem tJ0_checkIndex_df160 (l : Launch) (g : Geo) (sta : Nat → Nat) (h : HS) (x n : Int32) (h0 : ¬ x < 0) (h1 : x < n) : CT (wX l g sta) 2 mJ0_checkIndex_df160 [.int x, .int n] h (DV h) := by
  refine CT.at [some (.int x), some (.int n)] 0 rfl (by decide) (Nat.le_of_ble_eq_true rfl) (fun k K => ?_)
  refine aw_il0 K dJ0_checkIndex_df160_0 ?_
  refine aw_il1 K dJ0_checkIndex_df160_1 ?_
  refine aw_gSF K (aw_in 512 (by decide +kernel) rfl) dJ0_checkIndex_df160_2 ?_
  refine (show AW _ _ _ _ _ _ _ (aw_sv sta :: _) _ from ?_)
  by_cases hs : sta 26 = 0
  · rw [show aw_sv sta = .null from if_pos hs]
    refine aw_callS_I K (tJ3n l g sta _ _ _ h0 h1) rfl (by decide) fJ3_checkIndex_8e157 lJ0_1059 dJ0_checkIndex_df160_5 rfl (Nat.le_of_ble_eq_true rfl) ?_
    refine aw_pop K dJ0_checkIndex_df160_8 rfl ?_
    refine aw_vret K rfl dJ0_checkIndex_df160_9 ?_
    exact ⟨rfl, rfl⟩
  · rw [show aw_sv sta = .ref (sta 25) from if_neg hs]
    refine aw_callS_I K (tJ3_checkIndex_8e157 l g sta _ _ _ _ h0 h1) rfl (by decide) fJ3_checkIndex_8e157 lJ0_1059 dJ0_checkIndex_df160_5 rfl (Nat.le_of_ble_eq_true rfl) ?_
    refine aw_pop K dJ0_checkIndex_df160_8 rfl ?_
    refine aw_vret K rfl dJ0_checkIndex_df160_9 ?_
    exact ⟨rfl, rfl⟩

set_option maxHeartbeats 4000000 in
set_option maxRecDepth 100000 in
theorem tJ1_charAt_3b067 (l : Launch) (g : Geo) (sta : Nat → Nat) (h : HS) (i j : Nat) (hi : i < 11) (hj : j < aw_tl i) : CT (wX l g sta) 3 mJ1_charAt_3b067 [.ref (sta (14 + i)), .int (nI j)] h (DI (aw_tc i j) h) := by
  refine CT.at [some (.ref (sta (14 + i))), some (.int (nI j))] 0 rfl (by decide) (Nat.le_of_ble_eq_true rfl) (fun k K => ?_)
  have h6 := tl_6 hi
  refine aw_il1 K dJ1_charAt_3b067_0 ?_
  refine aw_al0 K dJ1_charAt_3b067_1 ?_
  refine aw_tlen K hi dJ1_charAt_3b067_2 ?_
  refine aw_callS_V K (tJ0_checkIndex_df160 l g sta _ _ _ (nI_pos (by omega)) (nI_lt hj (by omega))) rfl (by decide) fJ0_checkIndex_df160 lJ1_9 dJ1_charAt_3b067_3 rfl (Nat.le_of_ble_eq_true rfl) ?_
  refine aw_al0 K dJ1_charAt_3b067_6 ?_
  refine aw_il1 K dJ1_charAt_3b067_7 ?_
  refine aw_tbld K hi (vp_in_nI hj (by omega)) dJ1_charAt_3b067_8 ?_
  rw [nI_clamp (show j < 2 ^ 31 by omega)]
  refine aw_sipush (v := 255) K dJ1_charAt_3b067_9 (by decide) ?_
  refine aw_iand K dJ1_charAt_3b067_12 ?_
  refine aw_i2c K dJ1_charAt_3b067_13 ?_
  rw [(tc_ch hi (show j < 6 by omega)).1]
  refine aw_nret K rfl dJ1_charAt_3b067_14 (tc_ch hi (show j < 6 by omega)).2 ?_
  exact ⟨rfl, rfl⟩

set_option maxHeartbeats 4000000 in
set_option maxRecDepth 100000 in
theorem tJ0_charAt_5068e (l : Launch) (g : Geo) (sta : Nat → Nat) (h : HS) (i j : Nat) (hi : i < 11) (hj : j < aw_tl i) : CT (wX l g sta) 4 mJ0_charAt_5068e [.ref (sta (3 + i)), .int (nI j)] h (DI (aw_tc i j) h) := by
  refine CT.at [some (.ref (sta (3 + i))), some (.int (nI j))] 0 rfl (by decide) (Nat.le_of_ble_eq_true rfl) (fun k K => ?_)
  have h6 := tl_6 hi
  refine aw_al0 K dJ0_charAt_5068e_0 ?_
  refine aw_callT K hi (tJ0_isLatin1_aae02 l g sta _ i hi) rfl (by decide) fJ0_isLatin1_aae02 lJ0_492 dJ0_charAt_5068e_1 rfl rfl (Nat.le_of_ble_eq_true rfl) (fun o h2 hq => ?_)
  obtain ⟨rfl, rfl⟩ := hq
  refine (show AW _ _ _ _ _ _ _ (.int _ :: _) _ from ?_)
  refine aw_if_eq (tgt := 16) K dJ0_charAt_5068e_4 (by decide) (fun b4 => ?_) (fun b4 => ?_)
  · exact absurd b4 (by decide)
  · refine aw_al0 K dJ0_charAt_5068e_7 ?_
    refine aw_sVa K hi (aw_in 1316 (by decide +kernel) rfl) dJ0_charAt_5068e_8 ?_
    refine aw_il1 K dJ0_charAt_5068e_11 ?_
    refine aw_callS_I K (tJ1_charAt_3b067 l g sta _ i j hi hj) rfl (by decide) fJ1_charAt_3b067 lJ0_495 dJ0_charAt_5068e_12 rfl (Nat.le_of_ble_eq_true rfl) ?_
    refine aw_nret K rfl dJ0_charAt_5068e_15 (tc_ch hi (show j < 6 by omega)).2 ?_
    exact ⟨rfl, rfl⟩

