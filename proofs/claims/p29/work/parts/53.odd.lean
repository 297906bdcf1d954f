/-! ways to choose -/
def chL (a : Int32) : Nat → Int64
  | 0 => 1
  | i + 1 => chL a i * (a - nI i).toInt64 / (nI (i + 1)).toInt64
def chV (a b : Int32) : Int64 := if b < 0 ∨ a < b then 0 else chL a b.toNatClampNeg
/-- ways to choose, as numbers -/
def cTab : List (List Nat) := [[1, 0, 0, 0, 0, 0, 0, 0, 0, 0, 0, 0, 0, 0, 0, 0, 0, 0, 0, 0, 0, 0, 0, 0, 0], [1, 1, 0, 0, 0, 0, 0, 0, 0, 0, 0, 0, 0, 0, 0, 0, 0, 0, 0, 0, 0, 0, 0, 0, 0], [1, 2, 1, 0, 0, 0, 0, 0, 0, 0, 0, 0, 0, 0, 0, 0, 0, 0, 0, 0, 0, 0, 0, 0, 0], [1, 3, 3, 1, 0, 0, 0, 0, 0, 0, 0, 0, 0, 0, 0, 0, 0, 0, 0, 0, 0, 0, 0, 0, 0], [1, 4, 6, 4, 1, 0, 0, 0, 0, 0, 0, 0, 0, 0, 0, 0, 0, 0, 0, 0, 0, 0, 0, 0, 0], [1, 5, 10, 10, 5, 1, 0, 0, 0, 0, 0, 0, 0, 0, 0, 0, 0, 0, 0, 0, 0, 0, 0, 0, 0], [1, 6, 15, 20, 15, 6, 1, 0, 0, 0, 0, 0, 0, 0, 0, 0, 0, 0, 0, 0, 0, 0, 0, 0, 0], [1, 7, 21, 35, 35, 21, 7, 1, 0, 0, 0, 0, 0, 0, 0, 0, 0, 0, 0, 0, 0, 0, 0, 0, 0], [1, 8, 28, 56, 70, 56, 28, 8, 1, 0, 0, 0, 0, 0, 0, 0, 0, 0, 0, 0, 0, 0, 0, 0, 0], [1, 9, 36, 84, 126, 126, 84, 36, 9, 1, 0, 0, 0, 0, 0, 0, 0, 0, 0, 0, 0, 0, 0, 0, 0], [1, 10, 45, 120, 210, 252, 210, 120, 45, 10, 1, 0, 0, 0, 0, 0, 0, 0, 0, 0, 0, 0, 0, 0, 0], [1, 11, 55, 165, 330, 462, 462, 330, 165, 55, 11, 1, 0, 0, 0, 0, 0, 0, 0, 0, 0, 0, 0, 0, 0], [1, 12, 66, 220, 495, 792, 924, 792, 495, 220, 66, 12, 1, 0, 0, 0, 0, 0, 0, 0, 0, 0, 0, 0, 0], [1, 13, 78, 286, 715, 1287, 1716, 1716, 1287, 715, 286, 78, 13, 1, 0, 0, 0, 0, 0, 0, 0, 0, 0, 0, 0], [1, 14, 91, 364, 1001, 2002, 3003, 3432, 3003, 2002, 1001, 364, 91, 14, 1, 0, 0, 0, 0, 0, 0, 0, 0, 0, 0], [1, 15, 105, 455, 1365, 3003, 5005, 6435, 6435, 5005, 3003, 1365, 455, 105, 15, 1, 0, 0, 0, 0, 0, 0, 0, 0, 0], [1, 16, 120, 560, 1820, 4368, 8008, 11440, 12870, 11440, 8008, 4368, 1820, 560, 120, 16, 1, 0, 0, 0, 0, 0, 0, 0, 0], [1, 17, 136, 680, 2380, 6188, 12376, 19448, 24310, 24310, 19448, 12376, 6188, 2380, 680, 136, 17, 1, 0, 0, 0, 0, 0, 0, 0], [1, 18, 153, 816, 3060, 8568, 18564, 31824, 43758, 48620, 43758, 31824, 18564, 8568, 3060, 816, 153, 18, 1, 0, 0, 0, 0, 0, 0], [1, 19, 171, 969, 3876, 11628, 27132, 50388, 75582, 92378, 92378, 75582, 50388, 27132, 11628, 3876, 969, 171, 19, 1, 0, 0, 0, 0, 0], [1, 20, 190, 1140, 4845, 15504, 38760, 77520, 125970, 167960, 184756, 167960, 125970, 77520, 38760, 15504, 4845, 1140, 190, 20, 1, 0, 0, 0, 0], [1, 21, 210, 1330, 5985, 20349, 54264, 116280, 203490, 293930, 352716, 352716, 293930, 203490, 116280, 54264, 20349, 5985, 1330, 210, 21, 1, 0, 0, 0], [1, 22, 231, 1540, 7315, 26334, 74613, 170544, 319770, 497420, 646646, 705432, 646646, 497420, 319770, 170544, 74613, 26334, 7315, 1540, 231, 22, 1, 0, 0], [1, 23, 253, 1771, 8855, 33649, 100947, 245157, 490314, 817190, 1144066, 1352078, 1352078, 1144066, 817190, 490314, 245157, 100947, 33649, 8855, 1771, 253, 23, 1, 0], [1, 24, 276, 2024, 10626, 42504, 134596, 346104, 735471, 1307504, 1961256, 2496144, 2704156, 2496144, 1961256, 1307504, 735471, 346104, 134596, 42504, 10626, 2024, 276, 24, 1]]
def cB (n k : Nat) : Nat := (cTab.getD n []).getD k 0
set_option maxRecDepth 100000 in
theorem cB_t : ∀ n : Fin 25, ∀ k : Fin 25, wayV (nI n.1) (nI k.1) = lN (cB n.1 k.1) ∧ chV (nI n.1) (nI k.1) = lN (cB n.1 k.1) ∧ cB n.1 k.1 ≤ 2704156 ∧ (k.1 ≤ n.1 → 0 < cB n.1 k.1) := by decide +kernel
set_option maxRecDepth 100000 in
theorem cB_p : ∀ n : Fin 24, ∀ k : Fin 24, cB (n.1 + 1) (k.1 + 1) = cB n.1 k.1 + cB n.1 (k.1 + 1) ∧ cB (n.1 + 1) 0 = 1 ∧ cB 0 (k.1 + 1) = 0 ∧ cB 0 0 = 1 := by decide +kernel
theorem cB_w {n k : Nat} (hn : n ≤ 24) (hk : k ≤ 24) : wayV (nI n) (nI k) = lN (cB n k) := (cB_t ⟨n, by omega⟩ ⟨k, by omega⟩).1
theorem cB_c {n k : Nat} (hn : n ≤ 24) (hk : k ≤ 24) : chV (nI n) (nI k) = lN (cB n k) := (cB_t ⟨n, by omega⟩ ⟨k, by omega⟩).2.1
theorem cB_b {n k : Nat} (hn : n ≤ 24) (hk : k ≤ 24) : cB n k ≤ 2704156 := (cB_t ⟨n, by omega⟩ ⟨k, by omega⟩).2.2.1
theorem cB_0 {n k : Nat} (hn : n ≤ 24) (hk : k ≤ n) : 0 < cB n k := (cB_t ⟨n, by omega⟩ ⟨k, by omega⟩).2.2.2 hk
theorem wayV_neg {a b : Int32} (h : b < 0) : wayV a b = 0 := if_pos (Or.inl h)
theorem nI_sub_neg {a b : Nat} (hb : b ≤ 24) (h : a < b) : nI a - nI b < 0 := pk_sneg (by omega) h
set_option maxHeartbeats 4000000 in
set_option maxRecDepth 100000 in
theorem lpeX6_choose {l : Launch} {g : Geo} {sta : Nat → Nat} {k : KT} (K : AOK (wX l g sta) mX6_choose k) (h : HS) (a : Int32) (m : Nat) (hm : m < 2 ^ 31 - 1) :
    ∀ (n i : Nat), i + n = m → AW (wX l g sta) (DL (chL a m) h) 1 mX6_choose k 16 [some (.int a), some (.int (nI m)), some (.long (chL a i)), none, some (.int (nI i))] [] h := by
  intro n
  induction n with
  | zero =>
    intro i k1
    obtain rfl : i = m := by omega
    refine aw_il4 K dX6_choose_16 ?_
    refine aw_il1 K dX6_choose_18 ?_
    refine aw_icmp_ge (tgt := 42) K dX6_choose_19 (by decide) (fun b19 => ?_) (fun b19 => ?_)
    · refine aw_ll2 K dX6_choose_42 ?_
      refine aw_lret K rfl dX6_choose_43 ?_
      exact ⟨rfl, rfl⟩
    · exact absurd (Int32.le_refl _) b19
  | succ n ih =>
    intro i k1
    refine aw_il4 K dX6_choose_16 ?_
    refine aw_il1 K dX6_choose_18 ?_
    refine aw_icmp_ge (tgt := 42) K dX6_choose_19 (by decide) (fun b19 => ?_) (fun b19 => ?_)
    · exact absurd b19 (nI_ge (by omega) (by omega))
    · refine aw_ll2 K dX6_choose_22 ?_
      refine aw_il0 K dX6_choose_23 ?_
      refine aw_il4 K dX6_choose_24 ?_
      refine aw_isub K dX6_choose_26 ?_
      refine aw_i2l K dX6_choose_27 ?_
      refine aw_lmul K dX6_choose_28 ?_
      refine aw_il4 K dX6_choose_29 ?_
      refine aw_iconst (v := 1) K dX6_choose_31 (by decide) ?_
      refine aw_iadd K dX6_choose_32 ?_
      refine aw_i2l K dX6_choose_33 ?_
      refine aw_ldiv K dX6_choose_34 (by rw [nI_1]; exact nI_l0 (by omega) (by omega)) ?_
      refine aw_ls2 K dX6_choose_35 (by decide) rfl ?_
      refine aw_ii4 (v := _ + 1) K dX6_choose_36 rfl (by decide) rfl ?_
      refine aw_goto (tgt := 16) K dX6_choose_39 (by decide) ?_
      rw [nI_1]
      exact ih (i + 1) (by omega)
set_option maxHeartbeats 4000000 in
set_option maxRecDepth 100000 in
theorem eX6_choose (l : Launch) (g : Geo) (sta : Nat → Nat) (h : HS) (a b : Int32) (hb : b ≤ 24) : CT (wX l g sta) 1 mX6_choose [.int a, .int b] h (DL (chV a b) h) := by
  refine CT.at [some (.int a), some (.int b), none, none, none] 3 rfl (by decide) (Nat.le_of_ble_eq_true rfl) (fun k K => ?_)
  refine aw_il1 K dX6_choose_0 ?_
  refine aw_if_lt (tgt := 9) K dX6_choose_1 (by decide) (fun b1 => ?_) (fun b1 => ?_)
  · refine aw_lconst (v := 0) K dX6_choose_9 (by decide) ?_
    refine aw_lret K rfl dX6_choose_10 ?_
    refine ⟨?_, rfl⟩
    rw [chV, if_pos (Or.inl b1)]
  · refine aw_il1 K dX6_choose_4 ?_
    refine aw_il0 K dX6_choose_5 ?_
    refine aw_icmp_le (tgt := 11) K dX6_choose_6 (by decide) (fun b6 => ?_) (fun b6 => ?_)
    · refine aw_lconst (v := 1) K dX6_choose_11 (by decide) ?_
      refine aw_ls2 K dX6_choose_12 (by decide) rfl ?_
      refine aw_iconst (v := 0) K dX6_choose_13 (by decide) ?_
      refine aw_is4 K dX6_choose_14 (by decide) rfl ?_
      obtain ⟨m, hm, rfl⟩ := nI_of b1
      have hm2 := (nI_leI (b := 24) hm (by decide)).mp hb
      rw [chV, if_neg (fun q => q.elim b1 (Int32.not_lt.mpr b6)), nI_clamp hm]
      exact lpeX6_choose K h a m (by omega) m 0 (by omega)
    · refine aw_lconst (v := 0) K dX6_choose_9 (by decide) ?_
      refine aw_lret K rfl dX6_choose_10 ?_
      refine ⟨?_, rfl⟩
      rw [chV, if_pos (Or.inr (Int32.not_le.mp b6))]

theorem halves {b r n : Nat} (hb : b < 2 ^ (n + 1)) (h1 : 0 < r) (h2 : r < b) : b % r < 2 ^ n := by
  have e : 2 ^ (n + 1) = 2 * 2 ^ n := by rw [Nat.pow_succ]; omega
  have h3 := Nat.mod_lt b h1
  rcases Nat.lt_or_ge r (2 ^ n) with q | q
  · omega
  · have h4 : b % r = b - r := by
      rw [Nat.mod_eq_sub_mod (by omega), Nat.mod_eq_of_lt (by omega)]
    omega
theorem lN_rem {a b : Nat} (ha : a < 2 ^ 63) (h0 : 0 < b) (hb : b < 2 ^ 63) : lN a - lN a / lN b * lN b = lN (a % b) := pk_lRem ha h0 hb
theorem lN_0 {a : Nat} (ha : a < 2 ^ 63) : lN a = 0 ↔ a = 0 := by
  rw [show (0 : Int64) = lN 0 from rfl, pk_lEQ ha (by decide)]
set_option maxHeartbeats 4000000 in
set_option maxRecDepth 100000 in
theorem lpeX6_commonPart {l : Launch} {g : Geo} {sta : Nat → Nat} {k : KT} (K : AOK (wX l g sta) mX6_commonPart k) (h : HS) (u v : Int64) (r : Nat) (hr : 0 < r) (hr2 : r < 2 ^ 63) :
    ∀ (f n i x y : Nat), y < 2 ^ n → x < 2 ^ 63 → y < 2 ^ 63 → i + 2 * n + 1 ≤ 200 → Nat.gcd x y = r → 2 * n + (if y = 0 then 0 else 1) ≤ f → AW (wX l g sta) (DL (lN r) h) 2 mX6_commonPart k 9 [some (.long u), none, some (.long v), none, some (.long (lN x)), none, some (.long (lN y)), none, some (.int (nI i)), none, none] [] h := by
  intro f
  induction f with
  | zero =>
    intro n i x y k1 k2 k3 k4 k5 k6
    have hy : y = 0 := by
      rcases Nat.eq_zero_or_pos y with q | q
      · exact q
      · rw [if_neg (by omega)] at k6
        omega
    subst hy
    rw [Nat.gcd_zero_right] at k5
    subst k5
    refine aw_il8 K dX6_commonPart_9 ?_
    refine aw_sipush (v := 200) K dX6_commonPart_11 (by decide) ?_
    refine aw_icmp_ge (tgt := 45) K dX6_commonPart_14 (by decide) (fun b14 => ?_) (fun b14 => ?_)
    · exact absurd b14 (nI_ge (b := 200) (by omega) (by decide))
    · refine aw_ll6 K dX6_commonPart_17 ?_
      refine aw_lconst (v := 0) K dX6_commonPart_19 (by decide) ?_
      refine aw_lcmp K dX6_commonPart_20 ?_
      refine aw_if_eq (tgt := 45) K dX6_commonPart_21 (by decide) (fun b21 => ?_) (fun b21 => ?_)
      · refine aw_lconst (v := 1) K dX6_commonPart_45 (by decide) ?_
        refine aw_ll4 K dX6_commonPart_46 ?_
        refine aw_mmaxL K (aw_in 709 (by decide +kernel) rfl) cw_maxl1 cw_max2 cw_maxl3 (by decide) (Nat.le_of_ble_eq_true rfl) dX6_commonPart_48 ?_
        rw [show (if lN x < 1 then (1 : Int64) else lN x) = lN x from if_neg (by rw [show (1 : Int64) = lN 1 from rfl, pk_lLT k2 (by decide)]; omega)]
        refine aw_lret K rfl dX6_commonPart_51 ?_
        exact ⟨rfl, rfl⟩
      · exact absurd ((lg_cmp_eq _ _).mpr rfl) b21
  | succ f ih =>
    intro n i x y k1 k2 k3 k4 k5 k6
    by_cases hy : y = 0
    · subst hy
      rw [Nat.gcd_zero_right] at k5
      subst k5
      refine aw_il8 K dX6_commonPart_9 ?_
      refine aw_sipush (v := 200) K dX6_commonPart_11 (by decide) ?_
      refine aw_icmp_ge (tgt := 45) K dX6_commonPart_14 (by decide) (fun b14 => ?_) (fun b14 => ?_)
      · exact absurd b14 (nI_ge (b := 200) (by omega) (by decide))
      · refine aw_ll6 K dX6_commonPart_17 ?_
        refine aw_lconst (v := 0) K dX6_commonPart_19 (by decide) ?_
        refine aw_lcmp K dX6_commonPart_20 ?_
        refine aw_if_eq (tgt := 45) K dX6_commonPart_21 (by decide) (fun b21 => ?_) (fun b21 => ?_)
        · refine aw_lconst (v := 1) K dX6_commonPart_45 (by decide) ?_
          refine aw_ll4 K dX6_commonPart_46 ?_
          refine aw_mmaxL K (aw_in 709 (by decide +kernel) rfl) cw_maxl1 cw_max2 cw_maxl3 (by decide) (Nat.le_of_ble_eq_true rfl) dX6_commonPart_48 ?_
          rw [show (if lN x < 1 then (1 : Int64) else lN x) = lN x from if_neg (by rw [show (1 : Int64) = lN 1 from rfl, pk_lLT k2 (by decide)]; omega)]
          refine aw_lret K rfl dX6_commonPart_51 ?_
          exact ⟨rfl, rfl⟩
        · exact absurd ((lg_cmp_eq _ _).mpr rfl) b21
    · have hn : ∃ m, n = m + 1 := by
        cases n with
        | zero => omega
        | succ m => exact ⟨m, rfl⟩
      obtain ⟨m, rfl⟩ := hn
      have hy0 : 0 < y := by omega
      have hlt := Nat.mod_lt x hy0
      refine aw_il8 K dX6_commonPart_9 ?_
      refine aw_sipush (v := 200) K dX6_commonPart_11 (by decide) ?_
      refine aw_icmp_ge (tgt := 45) K dX6_commonPart_14 (by decide) (fun b14 => ?_) (fun b14 => ?_)
      · exact absurd b14 (nI_ge (b := 200) (by omega) (by decide))
      · refine aw_ll6 K dX6_commonPart_17 ?_
        refine aw_lconst (v := 0) K dX6_commonPart_19 (by decide) ?_
        refine aw_lcmp K dX6_commonPart_20 ?_
        refine aw_if_eq (tgt := 45) K dX6_commonPart_21 (by decide) (fun b21 => ?_) (fun b21 => ?_)
        · exact absurd ((lN_0 k3).mp ((lg_cmp_eq _ _).mp b21)) hy
        · refine aw_ll4 K dX6_commonPart_24 ?_
          refine aw_ll6 K dX6_commonPart_26 ?_
          refine aw_lrem K dX6_commonPart_28 (fun q => hy ((lN_0 k3).mp q)) ?_
          rw [lN_rem k2 hy0 k3]
          refine aw_ls9 K dX6_commonPart_29 (by decide) rfl ?_
          refine aw_ll6 K dX6_commonPart_31 ?_
          refine aw_ls4 K dX6_commonPart_33 (by decide) rfl ?_
          refine aw_ll9 K dX6_commonPart_35 ?_
          refine aw_ls6 K dX6_commonPart_37 (by decide) rfl ?_
          refine aw_ii8 (v := _ + 1) K dX6_commonPart_39 rfl (by decide) rfl ?_
          refine aw_goto (tgt := 9) K dX6_commonPart_42 (by decide) ?_
          rw [nI_1]
          refine aw_sub [some (.long _), none, some (.long _), none, some (.long _), none, some (.long _), none, some (.int _), none, none] ⟨rfl, rfl, rfl, rfl, rfl, trivial⟩ ?_
          by_cases hz : x % y = 0
          · rw [hz]
            rw [if_neg hy] at k6
            refine ih m (i + 1) y 0 (Nat.two_pow_pos m) k3 (by decide) (by omega) ?_ (by simp; omega)
            rw [Nat.gcd_comm, Nat.gcd_rec, Nat.gcd_comm] at k5
            rw [hz] at k5
            exact k5
          · have hm := halves k1 (show 0 < x % y by omega) hlt
            refine aw_il8 K dX6_commonPart_9 ?_
            refine aw_sipush (v := 200) K dX6_commonPart_11 (by decide) ?_
            refine aw_icmp_ge (tgt := 45) K dX6_commonPart_14 (by decide) (fun b14 => ?_) (fun b14 => ?_)
            · exact absurd b14 (nI_ge (b := 200) (by omega) (by decide))
            · refine aw_ll6 K dX6_commonPart_17 ?_
              refine aw_lconst (v := 0) K dX6_commonPart_19 (by decide) ?_
              refine aw_lcmp K dX6_commonPart_20 ?_
              refine aw_if_eq (tgt := 45) K dX6_commonPart_21 (by decide) (fun b21 => ?_) (fun b21 => ?_)
              · exact absurd ((lN_0 (by omega)).mp ((lg_cmp_eq _ _).mp b21)) hz
              · refine aw_ll4 K dX6_commonPart_24 ?_
                refine aw_ll6 K dX6_commonPart_26 ?_
                refine aw_lrem K dX6_commonPart_28 (fun q => hz ((lN_0 (by omega)).mp q)) ?_
                rw [lN_rem k3 (by omega) (by omega)]
                refine aw_ls9 K dX6_commonPart_29 (by decide) rfl ?_
                refine aw_ll6 K dX6_commonPart_31 ?_
                refine aw_ls4 K dX6_commonPart_33 (by decide) rfl ?_
                refine aw_ll9 K dX6_commonPart_35 ?_
                refine aw_ls6 K dX6_commonPart_37 (by decide) rfl ?_
                refine aw_ii8 (v := _ + 1) K dX6_commonPart_39 rfl (by decide) rfl ?_
                refine aw_goto (tgt := 9) K dX6_commonPart_42 (by decide) ?_
                rw [nI_1]
                refine aw_sub [some (.long _), none, some (.long _), none, some (.long _), none, some (.long _), none, some (.int _), none, none] ⟨rfl, rfl, rfl, rfl, rfl, trivial⟩ ?_
                rw [if_neg hy] at k6
                refine ih m (i + 1 + 1) (x % y) (y % (x % y)) hm (by omega) (by have := Nat.mod_lt y (show 0 < x % y by omega); omega) (by omega) ?_ (by split <;> omega)
                rw [Nat.gcd_comm, Nat.gcd_rec, Nat.gcd_comm] at k5
                rw [← k5, Nat.gcd_comm y, Nat.gcd_rec (x % y) y, Nat.gcd_comm]
set_option maxHeartbeats 4000000 in
set_option maxRecDepth 100000 in
theorem eX6_commonPart (l : Launch) (g : Geo) (sta : Nat → Nat) (h : HS) (a b : Nat) (ha : a < 2 ^ 63) (hb : b < 2 ^ 60) (h0 : 0 < b) : CT (wX l g sta) 2 mX6_commonPart [.long (lN a), .long (lN b)] h (DL (lN (Nat.gcd a b)) h) := by
  refine CT.at [some (.long (lN a)), none, some (.long (lN b)), none, none, none, none, none, none, none, none] 7 rfl (by decide) (Nat.le_of_ble_eq_true rfl) (fun k K => ?_)
  refine aw_ll0 K dX6_commonPart_0 ?_
  refine aw_ls4 K dX6_commonPart_1 (by decide) rfl ?_
  refine aw_ll2 K dX6_commonPart_3 ?_
  refine aw_ls6 K dX6_commonPart_4 (by decide) rfl ?_
  refine aw_iconst (v := 0) K dX6_commonPart_6 (by decide) ?_
  refine aw_is8 K dX6_commonPart_7 (by decide) rfl ?_
  exact lpeX6_commonPart K h _ _ (Nat.gcd a b) (Nat.gcd_pos_of_pos_right _ h0) (by have := Nat.gcd_le_right a h0; omega) 200 60 0 a b hb ha (by omega) (by omega) rfl (by split <;> omega)
def lowV (a b : Nat) (c : Int32) : Int64 := if c = 0 then lN (b / Nat.gcd a b) else lN (a / Nat.gcd a b)
set_option maxHeartbeats 4000000 in
set_option maxRecDepth 100000 in
theorem eX6_inLowest (l : Launch) (g : Geo) (sta : Nat → Nat) (h : HS) (a b : Nat) (c : Int32) (ha : a < 2 ^ 63) (hb : b < 2 ^ 60) (h0 : 0 < b) : CT (wX l g sta) 3 mX6_inLowest [.long (lN a), .long (lN b), .int c] h (DL (lowV a b c) h) := by
  refine CT.at [some (.long (lN a)), none, some (.long (lN b)), none, some (.int c), none, none] 2 rfl (by decide) (Nat.le_of_ble_eq_true rfl) (fun k K => ?_)
  refine aw_ll0 K dX6_inLowest_0 ?_
  refine aw_ll2 K dX6_inLowest_1 ?_
  refine aw_callS_L K (eX6_commonPart l g sta _ a b ha hb h0) rfl (by decide) fX6_commonPart lX6_345 dX6_inLowest_2 rfl (Nat.le_of_ble_eq_true rfl) ?_
  have hg := Nat.gcd_pos_of_pos_right a h0
  have hg2 := Nat.gcd_le_right a h0
  have hne : ¬ lN (Nat.gcd a b) = 0 := fun q => by have := (lN_0 (by omega)).mp q; omega
  refine aw_ls5 K dX6_inLowest_5 (by decide) rfl ?_
  refine aw_il4 K dX6_inLowest_7 ?_
  refine aw_if_eq (tgt := 19) K dX6_inLowest_9 (by decide) (fun b9 => ?_) (fun b9 => ?_)
  · refine aw_ll2 K dX6_inLowest_19 ?_
    refine aw_ll5 K dX6_inLowest_20 ?_
    refine aw_ldiv K dX6_inLowest_22 hne ?_
    refine aw_lret K rfl dX6_inLowest_23 ?_
    refine ⟨?_, rfl⟩
    rw [pk_lDiv (by omega) hg (by omega), lowV, if_pos b9]
  · refine aw_ll0 K dX6_inLowest_12 ?_
    refine aw_ll5 K dX6_inLowest_13 ?_
    refine aw_ldiv K dX6_inLowest_15 hne ?_
    refine aw_goto (tgt := 23) K dX6_inLowest_16 (by decide) ?_
    refine aw_lret K rfl dX6_inLowest_23 ?_
    refine ⟨?_, rfl⟩
    rw [pk_lDiv ha hg (by omega), lowV, if_neg b9]

set_option maxHeartbeats 4000000 in
set_option maxRecDepth 100000 in
theorem lpeX7_common {l : Launch} {g : Geo} {sta : Nat → Nat} {k : KT} (K : AOK (wM l g sta) mX7_common k) (h : HS) (u v : Int64) (r : Nat) :
    ∀ (n x y : Nat), y < n → x < 2 ^ 63 → y < 2 ^ 63 → Nat.gcd x y = r → AW (wM l g sta) (DL (lN r) h) 1 mX7_common k 6 [some (.long u), none, some (.long v), none, some (.long (lN x)), none, some (.long (lN y)), none, none, none] [] h := by
  intro n
  induction n with
  | zero => intro x y k1; omega
  | succ n ih =>
    intro x y k1 k2 k3 k5
    by_cases hy : y = 0
    · subst hy
      rw [Nat.gcd_zero_right] at k5
      subst k5
      refine aw_ll6 K dX7_common_6 ?_
      refine aw_lconst (v := 0) K dX7_common_8 (by decide) ?_
      refine aw_lcmp K dX7_common_9 ?_
      refine aw_if_eq (tgt := 31) K dX7_common_10 (by decide) (fun b10 => ?_) (fun b10 => ?_)
      · refine aw_ll4 K dX7_common_31 ?_
        refine aw_lret K rfl dX7_common_33 ?_
        exact ⟨rfl, rfl⟩
      · exact absurd ((lg_cmp_eq _ _).mpr rfl) b10
    · have hy0 : 0 < y := by omega
      have hlt := Nat.mod_lt x hy0
      refine aw_ll6 K dX7_common_6 ?_
      refine aw_lconst (v := 0) K dX7_common_8 (by decide) ?_
      refine aw_lcmp K dX7_common_9 ?_
      refine aw_if_eq (tgt := 31) K dX7_common_10 (by decide) (fun b10 => ?_) (fun b10 => ?_)
      · exact absurd ((lN_0 k3).mp ((lg_cmp_eq _ _).mp b10)) hy
      · refine aw_ll4 K dX7_common_13 ?_
        refine aw_ll6 K dX7_common_15 ?_
        refine aw_lrem K dX7_common_17 (fun q => hy ((lN_0 k3).mp q)) ?_
        rw [lN_rem k2 hy0 k3]
        refine aw_ls8 K dX7_common_18 (by decide) rfl ?_
        refine aw_ll6 K dX7_common_20 ?_
        refine aw_ls4 K dX7_common_22 (by decide) rfl ?_
        refine aw_ll8 K dX7_common_24 ?_
        refine aw_ls6 K dX7_common_26 (by decide) rfl ?_
        refine aw_goto (tgt := 6) K dX7_common_28 (by decide) ?_
        refine aw_sub [some (.long _), none, some (.long _), none, some (.long _), none, some (.long _), none, none, none] ⟨rfl, rfl, rfl, rfl, trivial⟩ ?_
        refine ih y (x % y) (by omega) k3 (by omega) ?_
        rw [← k5, Nat.gcd_comm x, Nat.gcd_rec y x, Nat.gcd_comm]
set_option maxHeartbeats 4000000 in
set_option maxRecDepth 100000 in
theorem eX7_common (l : Launch) (g : Geo) (sta : Nat → Nat) (h : HS) (a b : Nat) (ha : a < 2 ^ 63) (hb : b < 2 ^ 63) : CT (wM l g sta) 1 mX7_common [.long (lN a), .long (lN b)] h (DL (lN (Nat.gcd a b)) h) := by
  refine CT.at [some (.long (lN a)), none, some (.long (lN b)), none, none, none, none, none, none, none] 6 rfl (by decide) (Nat.le_of_ble_eq_true rfl) (fun k K => ?_)
  refine aw_ll0 K dX7_common_0 ?_
  refine aw_ls4 K dX7_common_1 (by decide) rfl ?_
  refine aw_ll2 K dX7_common_3 ?_
  refine aw_ls6 K dX7_common_4 (by decide) rfl ?_
  exact lpeX7_common K h _ _ _ (b + 1) a b (by omega) ha hb rfl

def smF (q : Nat → Nat) : Nat → Nat → Nat
  | 0, _ => 0
  | n + 1, i => q i + smF q n (i + 1)
theorem smF_0 {q : Nat → Nat} : ∀ n i, (∀ x, i ≤ x → q x = 0) → smF q n i = 0
  | 0, _, _ => rfl
  | n + 1, i, h => by
    unfold smF
    rw [h i (Nat.le_refl _), smF_0 n (i + 1) (fun x hx => h x (by omega))]
theorem smF_b {q : Nat → Nat} {B : Nat} (hq : ∀ x, q x ≤ B) : ∀ n i, smF q n i ≤ n * B
  | 0, _ => by simp [smF]
  | n + 1, i => by
    unfold smF
    have h1 := hq i
    have h2 := smF_b hq n (i + 1)
    rw [Nat.succ_mul]
    omega
def tmN (n m g i : Nat) : Nat := if i ≤ g then cB m i * cB (n - m) (g - i) else 0
/-- the numbers of a ring: told of the picture -/
def rN (v : Nat → Nat → Int32) (s b : Int32) (n : Nat) : Nat := (rgV v s b n).toNatClampNeg
theorem rN_i (v : Nat → Nat → Int32) (s b : Int32) {n : Nat} (hn : n ≤ 24) : rgV v s b n = nI (rN v s b n) ∧ rN v s b n ≤ n := by
  obtain ⟨j, h1, h2⟩ := rgV_in v s b n
  have e : rN v s b n = j := by rw [rN, h2, nI_clamp (by omega)]
  rw [e]
  exact ⟨h2, h1⟩
def odU (v : Nat → Nat → Int32) (s : Int32) (n : Nat) : Nat := smF (tmN n (rN v s 1 n) (rN v s 2 n)) (rN v s 1 n + 1 - rN v s 3 n) (rN v s 3 n)
def odD (v : Nat → Nat → Int32) (s : Int32) (n : Nat) : Nat := cB n (rN v s 2 n)
theorem tmN_b {n m g : Nat} (hn : n ≤ 24) (hm : m ≤ n) (hg : g ≤ n) (x : Nat) : tmN n m g x ≤ 2704156 * 2704156 := by
  unfold tmN
  split
  · rename_i q
    exact Nat.mul_le_mul (cB_b (by omega) (by omega)) (cB_b (by omega) (by omega))
  · exact Nat.zero_le _
theorem odU_b (v : Nat → Nat → Int32) (s : Int32) {n : Nat} (hn : n ≤ 24) : odU v s n < 2 ^ 60 := by
  have h1 := (rN_i v s 1 hn).2
  have h2 := (rN_i v s 2 hn).2
  have h3 := smF_b (tmN_b hn h1 h2) (rN v s 1 n + 1 - rN v s 3 n) (rN v s 3 n)
  have h4 : rN v s 1 n + 1 - rN v s 3 n ≤ 25 := by omega
  have h5 := Nat.mul_le_mul_right (2704156 * 2704156) h4
  have h6 : odU v s n ≤ 25 * (2704156 * 2704156) := Nat.le_trans h3 h5
  exact Nat.lt_of_le_of_lt h6 (by decide)
theorem odD_b (v : Nat → Nat → Int32) (s : Int32) {n : Nat} (hn : n ≤ 24) : 0 < odD v s n ∧ odD v s n ≤ 2704156 := by
  have h2 := (rN_i v s 2 hn).2
  exact ⟨cB_0 hn h2, cB_b hn (by omega)⟩
theorem le24 {a : Nat} (h : a ≤ 24) : nI a ≤ 24 := nI_le (b := 24) h (by decide)
set_option maxHeartbeats 4000000 in
set_option maxRecDepth 100000 in
theorem lpeX6_waysOf {l : Launch} {g : Geo} {sta : Nat → Nat} {k : KT} (K : AOK (wX l g sta) mX6_waysOf k) (h : HS) (s : Int32) (n0 m gg : Nat) (hn : n0 ≤ 24) (hm : m ≤ n0) (hg : gg ≤ n0) (r : Nat) :
    ∀ (n i A : Nat), m + 1 - i = n → i ≤ 25 → A + smF (tmN n0 m gg) n i = r → AW (wX l g sta) (DL (lN r) h) 3 mX6_waysOf k 29 [some (.ref (g.2.1 0)), some (.int s), some (.int (nI gg)), some (.int (nI m)), some (.int (nI (n0 - m))), some (.long (lN A)), none, some (.int (nI i))] [] h := by
  intro n
  induction n with
  | zero =>
    intro i A k1 k2 k3
    obtain rfl : A = r := k3
    refine aw_il7 K dX6_waysOf_29 ?_
    refine aw_il3 K dX6_waysOf_31 ?_
    refine aw_icmp_gt (tgt := 68) K dX6_waysOf_32 (by decide) (fun b32 => ?_) (fun b32 => ?_)
    · refine aw_ll5 K dX6_waysOf_68 ?_
      refine aw_lret K rfl dX6_waysOf_70 ?_
      exact ⟨rfl, rfl⟩
    · exact absurd (nI_lt (show m < i by omega) (by omega)) b32
  | succ n ih =>
    intro i A k1 k2 k3
    unfold smF at k3
    by_cases hig : i ≤ gg
    · have e : tmN n0 m gg i = cB m i * cB (n0 - m) (gg - i) := if_pos hig
      refine aw_il7 K dX6_waysOf_29 ?_
      refine aw_il3 K dX6_waysOf_31 ?_
      refine aw_icmp_gt (tgt := 68) K dX6_waysOf_32 (by decide) (fun b32 => ?_) (fun b32 => ?_)
      · exact absurd b32 (nI_nlt (by omega) (by omega))
      · refine aw_il7 K dX6_waysOf_35 ?_
        refine aw_il2 K dX6_waysOf_37 ?_
        refine aw_icmp_gt (tgt := 68) K dX6_waysOf_38 (by decide) (fun b38 => ?_) (fun b38 => ?_)
        · exact absurd b38 (nI_nlt (by omega) (by omega))
        · refine aw_ll5 K dX6_waysOf_41 ?_
          refine aw_il3 K dX6_waysOf_43 ?_
          refine aw_il7 K dX6_waysOf_44 ?_
          refine aw_callS_L K (eX6_choose l g sta _ _ _ (le24 (by omega))) rfl (by decide) fX6_choose lX6_265 dX6_waysOf_46 rfl (Nat.le_of_ble_eq_true rfl) ?_
          refine aw_il4 K dX6_waysOf_49 ?_
          refine aw_il2 K dX6_waysOf_51 ?_
          refine aw_il7 K dX6_waysOf_52 ?_
          refine aw_isub K dX6_waysOf_54 ?_
          rw [nI_sub hig]
          refine aw_callS_L K (eX6_choose l g sta _ _ _ (le24 (by omega))) rfl (by decide) fX6_choose lX6_265 dX6_waysOf_55 rfl (Nat.le_of_ble_eq_true rfl) ?_
          rw [cB_c (show m ≤ 24 by omega) (show i ≤ 24 by omega), cB_c (show n0 - m ≤ 24 by omega) (show gg - i ≤ 24 by omega)]
          refine aw_lmul K dX6_waysOf_58 ?_
          refine aw_ladd K dX6_waysOf_59 ?_
          rw [lN_mul, lN_add]
          refine aw_ls5 K dX6_waysOf_60 (by decide) rfl ?_
          refine aw_ii7 (v := _ + 1) K dX6_waysOf_62 rfl (by decide) rfl ?_
          refine aw_goto (tgt := 29) K dX6_waysOf_65 (by decide) ?_
          rw [nI_1]
          exact ih (i + 1) _ (by omega) (by omega) (by rw [← k3, e]; omega)
    · have e0 : ∀ x, i ≤ x → tmN n0 m gg x = 0 := fun x hx => if_neg (by omega)
      have e : A = r := by
        rw [e0 i (Nat.le_refl _), smF_0 n (i + 1) (fun x hx => e0 x (by omega))] at k3
        omega
      subst e
      refine aw_il7 K dX6_waysOf_29 ?_
      refine aw_il3 K dX6_waysOf_31 ?_
      refine aw_icmp_gt (tgt := 68) K dX6_waysOf_32 (by decide) (fun b32 => ?_) (fun b32 => ?_)
      · exact absurd b32 (nI_nlt (by omega) (by omega))
      · refine aw_il7 K dX6_waysOf_35 ?_
        refine aw_il2 K dX6_waysOf_37 ?_
        refine aw_icmp_gt (tgt := 68) K dX6_waysOf_38 (by decide) (fun b38 => ?_) (fun b38 => ?_)
        · refine aw_ll5 K dX6_waysOf_68 ?_
          refine aw_lret K rfl dX6_waysOf_70 ?_
          exact ⟨rfl, rfl⟩
        · exact absurd (nI_lt (show gg < i by omega) (by omega)) b38
set_option maxHeartbeats 4000000 in
set_option maxRecDepth 100000 in
theorem eX6_waysOf (l : Launch) (g : Geo) (sta : Nat → Nat) (h : HS) (s : Int32) {N T Wn : Nat} (H : XW h N T Wn) (ww : wrdW h N Wn) : CT (wX l g sta) 3 mX6_waysOf [.ref (g.2.1 0), .int s, .int (nI (rN (vX h) s 2 Wn))] h (DL (lN (odU (vX h) s Wn)) h) := by
  refine CT.at [some (.ref (g.2.1 0)), some (.int s), some (.int (nI (rN (vX h) s 2 Wn))), none, none, none, none, none] 5 rfl (by decide) (Nat.le_of_ble_eq_true rfl) (fun k K => ?_)
  have hW := H.2.2.1.2
  have i1 := rN_i (vX h) s 1 hW
  have i2 := rN_i (vX h) s 2 hW
  have i3 := rN_i (vX h) s 3 hW
  refine aw_al0 K dX6_waysOf_0 ?_
  refine aw_il1 K dX6_waysOf_1 ?_
  refine aw_iconst (v := 0) K dX6_waysOf_2 (by decide) ?_
  refine aw_callV_I K (eX6_wordsWithin l g sta _ _ _ H) rfl (by decide) fX6_wordsWithin lX6_256 dX6_waysOf_3 rfl clsX6 rfl (Nat.le_of_ble_eq_true rfl) ?_
  rw [← rg_1 H.1.2 ww, i1.1]
  refine aw_is3 K dX6_waysOf_6 (by decide) rfl ?_
  refine aw_al0 K dX6_waysOf_7 ?_
  refine aw_getR K gX6_26 dX6_waysOf_8 rfl rfl ?_
  refine aw_getI K gX6_255 dX6_waysOf_11 rfl rfl ?_
  refine aw_il3 K dX6_waysOf_14 ?_
  rw [H.2.2.1.1]
  refine aw_isub K dX6_waysOf_15 ?_
  rw [nI_sub i1.2]
  refine aw_is4 K dX6_waysOf_16 (by decide) rfl ?_
  refine aw_lconst (v := 0) K dX6_waysOf_18 (by decide) ?_
  refine aw_ls5 K dX6_waysOf_19 (by decide) rfl ?_
  refine aw_al0 K dX6_waysOf_21 ?_
  refine aw_il1 K dX6_waysOf_22 ?_
  refine aw_iconst (v := 1) K dX6_waysOf_23 (by decide) ?_
  refine aw_callV_I K (eX6_wordsWithin l g sta _ _ _ H) rfl (by decide) fX6_wordsWithin lX6_256 dX6_waysOf_24 rfl clsX6 rfl (Nat.le_of_ble_eq_true rfl) ?_
  rw [← rg_3 H.1.2 ww, i3.1]
  refine aw_is7 K dX6_waysOf_27 (by decide) rfl ?_
  exact lpeX6_waysOf K h s Wn (rN (vX h) s 1 Wn) (rN (vX h) s 2 Wn) hW i1.2 i2.2 (odU (vX h) s Wn) _ (rN (vX h) s 3 Wn) 0 rfl (by omega) (by rw [Nat.zero_add]; rfl)

def odX (h : HS) (a b : Int32) (Wn : Nat) : Int64 := if (0 ≤ a ∧ a ≤ 1 <<< (h.1 1 5 &&& 31) - 1) ∧ (0 ≤ b ∧ b ≤ 1) then (if b = 0 then lN (odU (vX h) a Wn / Nat.gcd (odU (vX h) a Wn) (odD (vX h) a Wn)) else lN (odD (vX h) a Wn / Nat.gcd (odU (vX h) a Wn) (odD (vX h) a Wn))) else -1
set_option maxHeartbeats 4000000 in
set_option maxRecDepth 100000 in
theorem eX6_odds (l : Launch) (g : Geo) (sta : Nat → Nat) (h : HS) (a b : Int32) {N T Wn : Nat} (H : XW h N T Wn) (ww : wrdW h N Wn) : CT (wX l g sta) 7 mX6_odds [.ref (g.2.1 0), .int a, .int b] h (DL (odX h a b Wn) h) := by
  refine CT.at [some (.ref (g.2.1 0)), some (.int a), some (.int b), none] 1 rfl (by decide) (Nat.le_of_ble_eq_true rfl) (fun k K => ?_)
  have hW := H.2.2.1.2
  have i2 := rN_i (vX h) a 2 hW
  have uB := odU_b (vX h) a hW
  have dB := odD_b (vX h) a hW
  refine aw_al0 K dX6_odds_0 ?_
  refine aw_il1 K dX6_odds_1 ?_
  refine aw_callV_I K (tX6_isHeap l g sta _ _) rfl (by decide) fX6_isHeap lX6_196 dX6_odds_2 rfl clsX6 rfl (Nat.le_of_ble_eq_true rfl) ?_
  refine aw_if_eq (tgt := 17) K dX6_odds_5 (by decide) (fun b5 => ?_) (fun b5 => ?_)
  · refine aw_ldc2 K qX6_259 dX6_odds_17 ?_
    refine aw_lret K rfl dX6_odds_20 ?_
    refine ⟨?_, rfl⟩
    rw [odX, if_neg (fun q => bI_0.mp b5 q.1)]
  · refine aw_il2 K dX6_odds_8 ?_
    refine aw_iconst (v := 0) K dX6_odds_9 (by decide) ?_
    refine aw_iconst (v := 1) K dX6_odds_10 (by decide) ?_
    refine aw_callS_I K (tX6_within l g sta _ _ _ _) rfl (by decide) fX6_within lX6_76 dX6_odds_11 rfl (Nat.le_of_ble_eq_true rfl) ?_
    refine aw_if_ne (tgt := 21) K dX6_odds_14 (by decide) (fun b14 => ?_) (fun b14 => ?_)
    · refine aw_al0 K dX6_odds_21 ?_
      refine aw_sipush (v := 4095) K dX6_odds_22 (by decide) ?_
      refine aw_iconst (v := 1) K dX6_odds_25 (by decide) ?_
      refine aw_callV_I K (eX6_wordsWithin l g sta _ _ _ H) rfl (by decide) fX6_wordsWithin lX6_256 dX6_odds_26 rfl clsX6 rfl (Nat.le_of_ble_eq_true rfl) ?_
      rw [← rg_2 H.1.2 ww a, i2.1]
      refine aw_is3 K dX6_odds_29 (by decide) rfl ?_
      refine aw_al0 K dX6_odds_30 ?_
      refine aw_il1 K dX6_odds_31 ?_
      refine aw_il3 K dX6_odds_32 ?_
      refine aw_callV_L K (eX6_waysOf l g sta _ _ H ww) rfl (by decide) fX6_waysOf lX6_261 dX6_odds_33 rfl clsX6 rfl (Nat.le_of_ble_eq_true rfl) ?_
      refine aw_al0 K dX6_odds_36 ?_
      refine aw_getR K gX6_26 dX6_odds_37 rfl rfl ?_
      refine aw_getI K gX6_255 dX6_odds_40 rfl rfl ?_
      rw [H.2.2.1.1]
      refine aw_il3 K dX6_odds_43 ?_
      refine aw_callS_L K (eX6_choose l g sta _ _ _ (le24 (by omega))) rfl (by decide) fX6_choose lX6_265 dX6_odds_44 rfl (Nat.le_of_ble_eq_true rfl) ?_
      rw [cB_c hW (show rN (vX h) a 2 Wn ≤ 24 by omega)]
      refine (show AW _ _ _ _ _ _ _ (.long (lN (odD (vX h) a Wn)) :: _) _ from ?_)
      refine aw_il2 K dX6_odds_47 ?_
      refine aw_if_ne (tgt := 55) K dX6_odds_48 (by decide) (fun b48 => ?_) (fun b48 => ?_)
      · refine aw_iconst (v := 0) K dX6_odds_55 (by decide) ?_
        refine aw_callS_L K (eX6_inLowest l g sta _ _ _ _ (by omega) (by omega) dB.1) rfl (by decide) fX6_inLowest lX6_247 dX6_odds_56 rfl (Nat.le_of_ble_eq_true rfl) ?_
        refine aw_lret K rfl dX6_odds_59 ?_
        refine ⟨?_, rfl⟩
        rw [odX, if_pos ⟨bI_1.mp b5, bI_1.mp b14⟩, if_neg b48]
        rfl
      · refine aw_iconst (v := 1) K dX6_odds_51 (by decide) ?_
        refine aw_goto (tgt := 56) K dX6_odds_52 (by decide) ?_
        refine aw_callS_L K (eX6_inLowest l g sta _ _ _ _ (by omega) (by omega) dB.1) rfl (by decide) fX6_inLowest lX6_247 dX6_odds_56 rfl (Nat.le_of_ble_eq_true rfl) ?_
        refine aw_lret K rfl dX6_odds_59 ?_
        refine ⟨?_, rfl⟩
        rw [odX, if_pos ⟨bI_1.mp b5, bI_1.mp b14⟩, if_pos b48]
        rfl
    · refine aw_ldc2 K qX6_259 dX6_odds_17 ?_
      refine aw_lret K rfl dX6_odds_20 ?_
      refine ⟨?_, rfl⟩
      rw [odX, if_neg (fun q => bI_0.mp b14 q.2)]

/-- the odds are found -/
def FOd (h : HS) (s : Int32) (Wn : Nat) : Option Value → HS → Prop := fun o h' => o = none ∧ h'.1 = h.1 ∧ h'.2 0 38 = lN (odU h.1 s Wn / Nat.gcd (odU h.1 s Wn) (odD h.1 s Wn)) ∧ h'.2 0 39 = lN (odD h.1 s Wn / Nat.gcd (odU h.1 s Wn) (odD h.1 s Wn))
set_option maxHeartbeats 4000000 in
set_option maxRecDepth 100000 in
theorem lpeX7_findOdds {l : Launch} {g : Geo} {sta : Nat → Nat} {k : KT} (K : AOK (wM l g sta) mX7_findOdds k) (h0 : HS) (s : Int32) (n0 m gg hh U D : Nat) (hn : n0 ≤ 24) (hm : m ≤ n0) (hg : gg ≤ n0) (hU : U < 2 ^ 63) (hD : 0 < D) (hD2 : D < 2 ^ 63) :
    ∀ (n i A : Nat) (h : HS), m + 1 - i = n → i ≤ 25 → A + smF (tmN n0 m gg) n i = U → h.1 = h0.1 → h.2 0 38 = lN A → h.2 0 39 = lN D → AW (wM l g sta) (fun o h' => o = none ∧ h'.1 = h0.1 ∧ h'.2 0 38 = lN (U / Nat.gcd U D) ∧ h'.2 0 39 = lN (D / Nat.gcd U D)) 3 mX7_findOdds k 49 [some (.ref (g.2.1 0)), some (.int s), some (.int (nI n0)), some (.int (nI m)), some (.int (nI gg)), some (.int (nI hh)), some (.int (nI i)), none] [] h := by
  intro n
  induction n with
  | zero =>
    intro i A h k1 k2 k3 k4 k5 k6
    obtain rfl : A = U := k3
    have hg1 := Nat.gcd_pos_of_pos_right A hD
    have hg2 := Nat.gcd_le_right A hD
    have hne : ¬ lN (Nat.gcd A D) = 0 := fun q => by have := (lN_0 (by omega)).mp q; omega
    refine aw_il6 K dX7_findOdds_49 ?_
    refine aw_il3 K dX7_findOdds_51 ?_
    refine aw_icmp_gt (tgt := 88) K dX7_findOdds_52 (by decide) (fun b52 => ?_) (fun b52 => ?_)
    · refine aw_al0 K dX7_findOdds_88 ?_
      refine aw_getL K gX7_296 dX7_findOdds_89 rfl rfl ?_
      refine aw_al0 K dX7_findOdds_92 ?_
      refine aw_getL K gX7_304 dX7_findOdds_93 rfl rfl ?_
      rw [k5, k6]
      refine aw_callS_L K (eX7_common l g sta _ A D hU hD2) rfl (by decide) fX7_common lX7_271 dX7_findOdds_96 rfl (Nat.le_of_ble_eq_true rfl) ?_
      refine aw_ls6 K dX7_findOdds_99 (by decide) rfl ?_
      refine aw_al0 K dX7_findOdds_101 ?_
      refine aw_dup K dX7_findOdds_102 rfl ?_
      refine aw_getL K gX7_296 dX7_findOdds_103 rfl rfl ?_
      refine aw_ll6 K dX7_findOdds_106 ?_
      refine aw_ldiv K dX7_findOdds_108 hne ?_
      refine aw_putL K gX7_296 fpX7_38 dX7_findOdds_109 rfl rfl ?_
      refine aw_al0 K dX7_findOdds_112 ?_
      refine aw_dup K dX7_findOdds_113 rfl ?_
      refine aw_getL K gX7_304 dX7_findOdds_114 rfl rfl ?_
      refine aw_ll6 K dX7_findOdds_117 ?_
      refine aw_ldiv K dX7_findOdds_119 hne ?_
      refine aw_putL K gX7_304 fpX7_39 dX7_findOdds_120 rfl rfl ?_
      refine aw_vret K rfl dX7_findOdds_123 ?_
      refine ⟨rfl, k4, ?_, ?_⟩
      · rw [rdL, if_neg (by simp), rdL, if_pos ⟨rfl, rfl⟩, k5, pk_lDiv hU hg1 (by omega)]
      · rw [rdL, if_pos ⟨rfl, rfl⟩, rdL, if_neg (by simp), k6, pk_lDiv hD2 hg1 (by omega)]
    · exact absurd (nI_lt (show m < i by omega) (by omega)) b52
  | succ n ih =>
    intro i A h k1 k2 k3 k4 k5 k6
    unfold smF at k3
    have e : wayV (nI m) (nI i) * wayV (nI n0 - nI m) (nI gg - nI i) = lN (tmN n0 m gg i) := by
      unfold tmN
      by_cases hig : i ≤ gg
      · rw [if_pos hig, nI_sub hig, nI_sub hm, cB_w (show m ≤ 24 by omega) (show i ≤ 24 by omega), cB_w (show n0 - m ≤ 24 by omega) (show gg - i ≤ 24 by omega), lN_mul]
      · rw [if_neg hig, wayV_neg (nI_sub_neg (by omega) (by omega)), Int64.mul_zero]
        rfl
    refine aw_il6 K dX7_findOdds_49 ?_
    refine aw_il3 K dX7_findOdds_51 ?_
    refine aw_icmp_gt (tgt := 88) K dX7_findOdds_52 (by decide) (fun b52 => ?_) (fun b52 => ?_)
    · exact absurd b52 (nI_nlt (by omega) (by omega))
    · refine aw_al0 K dX7_findOdds_55 ?_
      refine aw_dup K dX7_findOdds_56 rfl ?_
      refine aw_getL K gX7_296 dX7_findOdds_57 rfl rfl ?_
      refine aw_il3 K dX7_findOdds_60 ?_
      refine aw_il6 K dX7_findOdds_61 ?_
      refine aw_callS_L K (tX7_ways l g sta _ _ _ (le24 (by omega))) rfl (by decide) fX7_ways lX7_300 dX7_findOdds_63 rfl (Nat.le_of_ble_eq_true rfl) ?_
      refine aw_il2 K dX7_findOdds_66 ?_
      refine aw_il3 K dX7_findOdds_67 ?_
      refine aw_isub K dX7_findOdds_68 ?_
      refine aw_il4 K dX7_findOdds_69 ?_
      refine aw_il6 K dX7_findOdds_71 ?_
      refine aw_isub K dX7_findOdds_73 ?_
      refine aw_callS_L K (tX7_ways l g sta _ _ _ (sub24 (by omega) (by omega))) rfl (by decide) fX7_ways lX7_300 dX7_findOdds_74 rfl (Nat.le_of_ble_eq_true rfl) ?_
      refine aw_lmul K dX7_findOdds_77 ?_
      rw [e, k5]
      refine aw_ladd K dX7_findOdds_78 ?_
      rw [lN_add]
      refine aw_putL K gX7_296 fpX7_38 dX7_findOdds_79 rfl rfl ?_
      refine aw_ii6 (v := _ + 1) K dX7_findOdds_82 rfl (by decide) rfl ?_
      refine aw_goto (tgt := 49) K dX7_findOdds_85 (by decide) ?_
      rw [nI_1]
      exact ih (i + 1) (A + tmN n0 m gg i) _ (by omega) (by omega) (by omega) k4 (by rw [rdL, if_pos ⟨rfl, rfl⟩]) (by rw [rdL, if_neg (by simp)]; exact k6)
set_option maxHeartbeats 4000000 in
set_option maxRecDepth 100000 in
theorem eX7_findOdds (l : Launch) (g : Geo) (sta : Nat → Nat) (h : HS) (s : Int32) {N T Wn : Nat} (H : MW h N T Wn) : CT (wM l g sta) 3 mX7_findOdds [.ref (g.2.1 0), .int s] h (FOd h s Wn) := by
  refine CT.at [some (.ref (g.2.1 0)), some (.int s), none, none, none, none, none, none] 6 rfl (by decide) (Nat.le_of_ble_eq_true rfl) (fun k K => ?_)
  have hW := H.2.2.1.2
  have i1 := rN_i h.1 s 1 hW
  have i2 := rN_i h.1 s 2 hW
  have i3 := rN_i h.1 s 3 hW
  have uB := odU_b h.1 s hW
  have dB := odD_b h.1 s hW
  refine aw_al0 K dX7_findOdds_0 ?_
  refine aw_il1 K dX7_findOdds_1 ?_
  refine aw_iconst (v := 0) K dX7_findOdds_2 (by decide) ?_
  refine aw_callV_I K (tX7_ringOf l g sta _ _ _ H) rfl (by decide) fX7_ringOf lX7_293 dX7_findOdds_3 rfl clsX7 rfl (Nat.le_of_ble_eq_true rfl) ?_
  refine aw_is2 K dX7_findOdds_6 (by decide) rfl ?_
  refine aw_al0 K dX7_findOdds_7 ?_
  refine aw_il1 K dX7_findOdds_8 ?_
  refine aw_iconst (v := 1) K dX7_findOdds_9 (by decide) ?_
  refine aw_callV_I K (tX7_ringOf l g sta _ _ _ H) rfl (by decide) fX7_ringOf lX7_293 dX7_findOdds_10 rfl clsX7 rfl (Nat.le_of_ble_eq_true rfl) ?_
  refine aw_is3 K dX7_findOdds_13 (by decide) rfl ?_
  refine aw_al0 K dX7_findOdds_14 ?_
  refine aw_il1 K dX7_findOdds_15 ?_
  refine aw_iconst (v := 2) K dX7_findOdds_16 (by decide) ?_
  refine aw_callV_I K (tX7_ringOf l g sta _ _ _ H) rfl (by decide) fX7_ringOf lX7_293 dX7_findOdds_17 rfl clsX7 rfl (Nat.le_of_ble_eq_true rfl) ?_
  refine aw_is4 K dX7_findOdds_20 (by decide) rfl ?_
  refine aw_al0 K dX7_findOdds_22 ?_
  refine aw_il1 K dX7_findOdds_23 ?_
  refine aw_iconst (v := 3) K dX7_findOdds_24 (by decide) ?_
  refine aw_callV_I K (tX7_ringOf l g sta _ _ _ H) rfl (by decide) fX7_ringOf lX7_293 dX7_findOdds_25 rfl clsX7 rfl (Nat.le_of_ble_eq_true rfl) ?_
  refine aw_is5 K dX7_findOdds_28 (by decide) rfl ?_
  refine aw_al0 K dX7_findOdds_30 ?_
  refine aw_lconst (v := 0) K dX7_findOdds_31 (by decide) ?_
  refine aw_putL K gX7_296 fpX7_38 dX7_findOdds_32 rfl rfl ?_
  refine aw_al0 K dX7_findOdds_35 ?_
  refine aw_il2 K dX7_findOdds_36 ?_
  refine aw_il4 K dX7_findOdds_37 ?_
  rw [rgV_0, i1.1, i2.1, i3.1]
  refine aw_callS_L K (tX7_ways l g sta _ _ _ (le24 (by omega))) rfl (by decide) fX7_ways lX7_300 dX7_findOdds_39 rfl (Nat.le_of_ble_eq_true rfl) ?_
  rw [cB_w hW (show rN h.1 s 2 Wn ≤ 24 by omega)]
  refine aw_putL K gX7_304 fpX7_39 dX7_findOdds_42 rfl rfl ?_
  refine aw_il5 K dX7_findOdds_45 ?_
  refine aw_is6 K dX7_findOdds_47 (by decide) rfl ?_
  exact lpeX7_findOdds K (setL (setL h 0 38 0) 0 39 (lN (cB Wn (rN h.1 s 2 Wn)))) s Wn (rN h.1 s 1 Wn) (rN h.1 s 2 Wn) (rN h.1 s 3 Wn) (odU h.1 s Wn) (odD h.1 s Wn) hW i1.2 i2.2 (by omega) dB.1 (by omega) _ (rN h.1 s 3 Wn) 0 _ rfl (by omega) (by rw [Nat.zero_add]; rfl) rfl (by rw [rdL, if_neg (by simp), rdL, if_pos ⟨rfl, rfl⟩]; rfl) (by rw [rdL, if_pos ⟨rfl, rfl⟩]; rfl)

def odM (h : HS) (a b : Int32) (Wn : Nat) : Int64 := if (0 ≤ a ∧ a ≤ 1 <<< (h.1 0 0 &&& 31) - 1) ∧ (0 ≤ b ∧ b ≤ 1) then (if b = 0 then lN (odU h.1 a Wn / Nat.gcd (odU h.1 a Wn) (odD h.1 a Wn)) else lN (odD h.1 a Wn / Nat.gcd (odU h.1 a Wn) (odD h.1 a Wn))) else -1
set_option maxHeartbeats 4000000 in
set_option maxRecDepth 100000 in
theorem eX7_odds (l : Launch) (g : Geo) (sta : Nat → Nat) (h : HS) (a b : Int32) {N T Wn : Nat} (H : MW h N T Wn) : CT (wM l g sta) 7 mX7_odds [.ref (g.2.1 0), .int a, .int b] h ((fun o h' => o = some (.long (odM h a b Wn)) ∧ MS h h')) := by
  refine CT.at [some (.ref (g.2.1 0)), some (.int a), some (.int b)] 0 rfl (by decide) (Nat.le_of_ble_eq_true rfl) (fun k K => ?_)
  refine aw_al0 K dX7_odds_0 ?_
  refine aw_il1 K dX7_odds_1 ?_
  refine aw_callV_I K (tX7_areNames l g sta _ _) rfl (by decide) fX7_areNames lX7_223 dX7_odds_2 rfl clsX7 rfl (Nat.le_of_ble_eq_true rfl) ?_
  refine aw_if_eq (tgt := 18) K dX7_odds_5 (by decide) (fun b5 => ?_) (fun b5 => ?_)
  · refine aw_ldc2 K qX7_307 dX7_odds_18 ?_
    refine aw_lret K rfl dX7_odds_21 ?_
    refine ⟨?_, MS.rf⟩
    rw [odM, if_neg (fun q => bI_0.mp b5 q.1)]
  · refine aw_il2 K dX7_odds_8 ?_
    refine aw_i2l K dX7_odds_9 ?_
    refine aw_lconst (v := 0) K dX7_odds_10 (by decide) ?_
    refine aw_lconst (v := 1) K dX7_odds_11 (by decide) ?_
    refine aw_callS_I K (in32 l g sta _ _ (0) (1) (by decide) (by decide)) rfl (by decide) fX7_in lX7_102 dX7_odds_12 rfl (Nat.le_of_ble_eq_true rfl) ?_
    refine aw_if_ne (tgt := 22) K dX7_odds_15 (by decide) (fun b15 => ?_) (fun b15 => ?_)
    · refine aw_al0 K dX7_odds_22 ?_
      refine aw_il1 K dX7_odds_23 ?_
      refine aw_callV K (eX7_findOdds l g sta _ _ H) rfl (by decide) fX7_findOdds lX7_309 dX7_odds_24 rfl clsX7 rfl (Nat.le_of_ble_eq_true rfl) (fun o h2 hq => ?_)
      obtain ⟨rfl, f1, f2, f3⟩ := hq
      refine aw_il2 K dX7_odds_27 ?_
      refine aw_if_ne (tgt := 38) K dX7_odds_28 (by decide) (fun b28 => ?_) (fun b28 => ?_)
      · refine aw_al0 K dX7_odds_38 ?_
        refine aw_getL K gX7_304 dX7_odds_39 rfl rfl ?_
        refine aw_lret K rfl dX7_odds_42 ?_
        refine ⟨?_, fun c _ => by rw [f1], fun j _ _ _ => by rw [f1]⟩
        rw [f3, odM, if_pos ⟨bI_1.mp b5, bI_1.mp b15⟩, if_neg b28]
      · refine aw_al0 K dX7_odds_31 ?_
        refine aw_getL K gX7_296 dX7_odds_32 rfl rfl ?_
        refine aw_goto (tgt := 42) K dX7_odds_35 (by decide) ?_
        refine aw_lret K rfl dX7_odds_42 ?_
        refine ⟨?_, fun c _ => by rw [f1], fun j _ _ _ => by rw [f1]⟩
        rw [f2, odM, if_pos ⟨bI_1.mp b5, bI_1.mp b15⟩, if_pos b28]
    · refine aw_ldc2 K qX7_307 dX7_odds_18 ?_
      refine aw_lret K rfl dX7_odds_21 ?_
      refine ⟨?_, MS.rf⟩
      rw [odM, if_neg (fun q => bI_0.mp b15 q.2)]

theorem rN_eq {hx hm : HS} (r : REL hx hm) (s b : Int32) (n : Nat) : rN hm.1 s b n = rN (vX hx) s b n := by
  unfold rN
  rw [rgP_eq r]
theorem odU_eq {hx hm : HS} (r : REL hx hm) (s : Int32) (n : Nat) : odU hm.1 s n = odU (vX hx) s n := by
  unfold odU
  rw [rN_eq r, rN_eq r, rN_eq r]
theorem odD_eq {hx hm : HS} (r : REL hx hm) (s : Int32) (n : Nat) : odD hm.1 s n = odD (vX hx) s n := by
  unfold odD
  rw [rN_eq r]
theorem od_eq {hx hm : HS} (r : REL hx hm) (a b : Int32) (Wn : Nat) : odX hx a b Wn = odM hm a b Wn := by
  unfold odX odM
  rw [INV.b1 r, odU_eq r, odD_eq r]
theorem smF_c {q q' : Nat → Nat} : ∀ n i, (∀ x, i ≤ x → x < i + n → q x = q' x) → smF q n i = smF q' n i
  | 0, _, _ => rfl
  | n + 1, i, h => by
    unfold smF
    rw [h i (Nat.le_refl _) (by omega), smF_c n (i + 1) (fun x h1 h2 => h x (by omega) (by omega))]
theorem smF_add {q q' : Nat → Nat} : ∀ n i, smF (fun x => q x + q' x) n i = smF q n i + smF q' n i
  | 0, _ => rfl
  | n + 1, i => by
    unfold smF
    rw [smF_add n (i + 1)]
    omega
theorem smF_sh {q : Nat → Nat} : ∀ n i, smF q n (i + 1) = smF (fun x => q (x + 1)) n i
  | 0, _ => rfl
  | n + 1, i => by
    unfold smF
    rw [smF_sh n (i + 1)]
theorem smF_l {q : Nat → Nat} : ∀ n i, smF q (n + 1) i = smF q n i + q (i + n)
  | 0, i => by simp [smF]
  | n + 1, i => by
    rw [smF, smF_l n (i + 1), smF, show i + 1 + n = i + (n + 1) by omega]
    omega
theorem smF_part {q : Nat → Nat} : ∀ k n i, smF q n (i + k) ≤ smF q (k + n) i
  | 0, n, i => by simp
  | k + 1, n, i => by
    have := smF_part (q := q) k n (i + 1)
    rw [show k + 1 + n = (k + n) + 1 by omega]
    rw [show i + (k + 1) = i + 1 + k by omega]
    show _ ≤ q i + smF q (k + n) (i + 1)
    omega
theorem cB_hi {n : Nat} (hn : n < 24) : cB n (n + 1) = 0 := by
  have q : ∀ n : Fin 24, cB n.1 (n.1 + 1) = 0 := by decide +kernel
  exact q ⟨n, hn⟩
theorem cB_n0 {n : Nat} (hn : n ≤ 24) : cB n 0 = 1 := by
  have q : ∀ n : Fin 25, cB n.1 0 = 1 := by decide +kernel
  exact q ⟨n, by omega⟩
theorem cB_ps {n k : Nat} (hn : n < 24) (hk : k < 24) : cB (n + 1) (k + 1) = cB n k + cB n (k + 1) := (cB_p ⟨n, hn⟩ ⟨k, hk⟩).1
theorem vand (r : Nat) : ∀ (m g : Nat), m + r ≤ 24 → g ≤ 24 → smF (fun i => if i ≤ g then cB m i * cB r (g - i) else 0) (m + 1) 0 = cB (m + r) g
  | 0, g, h1, h2 => by
    show (if 0 ≤ g then cB 0 0 * cB r (g - 0) else 0) + 0 = _
    rw [if_pos (Nat.zero_le _), cB_n0 (by decide), Nat.sub_zero, Nat.zero_add]
    omega
  | m + 1, g, h1, h2 => by
    have ih := vand r m g (by omega) h2
    -- the first summand apart
    have e1 : smF (fun i => if i ≤ g then cB (m + 1) i * cB r (g - i) else 0) (m + 1 + 1) 0 = cB r g + smF (fun i => if i + 1 ≤ g then cB (m + 1) (i + 1) * cB r (g - (i + 1)) else 0) (m + 1) 0 := by
      show (if 0 ≤ g then cB (m + 1) 0 * cB r (g - 0) else 0) + smF _ (m + 1) (0 + 1) = _
      rw [if_pos (Nat.zero_le _), cB_n0 (by omega), Nat.sub_zero, Nat.one_mul, smF_sh]
    have e2 : smF (fun i => if i + 1 ≤ g then cB (m + 1) (i + 1) * cB r (g - (i + 1)) else 0) (m + 1) 0 = smF (fun i => if i + 1 ≤ g then cB m i * cB r (g - (i + 1)) else 0) (m + 1) 0 + smF (fun i => if i + 1 ≤ g then cB m (i + 1) * cB r (g - (i + 1)) else 0) (m + 1) 0 := by
      rw [← smF_add]
      refine smF_c (m + 1) 0 (fun x _ hx => ?_)
      by_cases q : x + 1 ≤ g
      · rw [if_pos q, if_pos q, if_pos q, cB_ps (by omega) (by omega), Nat.add_mul]
      · rw [if_neg q, if_neg q, if_neg q]
    -- the second is the sum for m without its first, and a last that is 0
    have e3 : cB r g + smF (fun i => if i + 1 ≤ g then cB m (i + 1) * cB r (g - (i + 1)) else 0) (m + 1) 0 = cB (m + r) g := by
      rw [← ih]
      show _ = (if 0 ≤ g then cB m 0 * cB r (g - 0) else 0) + smF _ m (0 + 1)
      rw [if_pos (Nat.zero_le _), cB_n0 (by omega), Nat.sub_zero, Nat.one_mul, smF_sh, smF_l]
      have z : (if 0 + m + 1 ≤ g then cB m (0 + m + 1) * cB r (g - (0 + m + 1)) else 0) = 0 := by
        split
        · rw [Nat.zero_add, cB_hi (by omega), Nat.zero_mul]
        · rfl
      rw [z]
      omega
    rw [e1, e2]
    cases g with
    | zero =>
      have z : smF (fun i => if i + 1 ≤ 0 then cB m i * cB r (0 - (i + 1)) else 0) (m + 1) 0 = 0 := smF_0 _ _ (fun x _ => if_neg (by omega))
      rw [z, show m + 1 + r = (m + r) + 1 by omega, cB_n0 (by omega)]
      rw [cB_n0 (by omega)] at e3
      rw [cB_n0 (by omega)] at e3
      rw [cB_n0 (by omega)]
      omega
    | succ g =>
      have ih2 := vand r m g (by omega) (by omega)
      have e4 : smF (fun i => if i + 1 ≤ g + 1 then cB m i * cB r (g + 1 - (i + 1)) else 0) (m + 1) 0 = cB (m + r) g := by
        rw [← ih2]
        refine smF_c (m + 1) 0 (fun x _ _ => ?_)
        by_cases q : x ≤ g
        · rw [if_pos q, if_pos (by omega), show g + 1 - (x + 1) = g - x by omega]
        · rw [if_neg q, if_neg (by omega)]
      rw [e4, show m + 1 + r = (m + r) + 1 by omega, cB_ps (by omega) (by omega)]
      omega
theorem odU_le (v : Nat → Nat → Int32) (s : Int32) {n : Nat} (hn : n ≤ 24) : odU v s n ≤ odD v s n := by
  have h1 := (rN_i v s 1 hn).2
  have h2 := (rN_i v s 2 hn).2
  unfold odU odD
  have e := vand (n - rN v s 1 n) (rN v s 1 n) (rN v s 2 n) (by omega) (by omega)
  rw [show rN v s 1 n + (n - rN v s 1 n) = n by omega] at e
  rw [← e]
  rcases Nat.lt_or_ge (rN v s 1 n) (rN v s 3 n) with q | q
  · rw [show rN v s 1 n + 1 - rN v s 3 n = 0 by omega]
    exact Nat.zero_le _
  · have p := smF_part (q := tmN n (rN v s 1 n) (rN v s 2 n)) (rN v s 3 n) (rN v s 1 n + 1 - rN v s 3 n) 0
    rw [Nat.zero_add, show rN v s 3 n + (rN v s 1 n + 1 - rN v s 3 n) = rN v s 1 n + 1 by omega] at p
    exact p
/-! fractions compared crosswise -/
theorem cross {U L D : Nat} (hD : 0 < D) : (U / Nat.gcd U D) * (D / Nat.gcd L D) < (L / Nat.gcd L D) * (D / Nat.gcd U D) ↔ U < L := by
  have g1 := Nat.gcd_pos_of_pos_right U hD
  have g2 := Nat.gcd_pos_of_pos_right L hD
  have a1 : U / Nat.gcd U D * Nat.gcd U D = U := Nat.div_mul_cancel (Nat.gcd_dvd_left _ _)
  have a2 : D / Nat.gcd U D * Nat.gcd U D = D := Nat.div_mul_cancel (Nat.gcd_dvd_right _ _)
  have b1 : L / Nat.gcd L D * Nat.gcd L D = L := Nat.div_mul_cancel (Nat.gcd_dvd_left _ _)
  have b2 : D / Nat.gcd L D * Nat.gcd L D = D := Nat.div_mul_cancel (Nat.gcd_dvd_right _ _)
  generalize U / Nat.gcd U D = u at *
  generalize D / Nat.gcd U D = d1 at *
  generalize L / Nat.gcd L D = x at *
  generalize D / Nat.gcd L D = d2 at *
  generalize Nat.gcd U D = p at *
  generalize Nat.gcd L D = q at *
  have e1 : u * d2 * (p * q) = U * D := by
    calc u * d2 * (p * q) = (u * p) * (d2 * q) := by rw [Nat.mul_mul_mul_comm]
      _ = U * D := by rw [a1, b2]
  have e2 : x * d1 * (p * q) = L * D := by
    calc x * d1 * (p * q) = x * d1 * (q * p) := by rw [Nat.mul_comm p q]
      _ = (x * q) * (d1 * p) := by rw [Nat.mul_mul_mul_comm]
      _ = L * D := by rw [b1, a2]
  have hpq : 0 < p * q := Nat.mul_pos g1 g2
  constructor
  · intro h
    have h2 := Nat.mul_lt_mul_of_pos_right h hpq
    rw [e1, e2] at h2
    exact Nat.lt_of_mul_lt_mul_right h2
  · intro h
    have h2 := Nat.mul_lt_mul_of_pos_right h hD
    rw [← e1, ← e2] at h2
    exact Nat.lt_of_mul_lt_mul_right h2
/-! how many bits -/
def popN (v : Nat) : Nat := v % 2 + v / 2 % 2 + v / 4 % 2 + v / 8 % 2 + v / 16 % 2 + v / 32 % 2 + v / 64 % 2 + v / 128 % 2 + v / 256 % 2 + v / 512 % 2 + v / 1024 % 2 + v / 2048 % 2
theorem nx_and (a b : Nat) : nI a &&& nI b = nI (a &&& b) := by
  apply Int32.toBitVec_inj.1
  show BitVec.ofNat 32 a &&& BitVec.ofNat 32 b = BitVec.ofNat 32 (a &&& b)
  apply BitVec.eq_of_getLsbD_eq
  intro i hi
  simp [hi]
def bcN (v : Nat) : Nat :=
  let a := v - ((v / 2) &&& 1431655765)
  let b := (a &&& 858993459) + ((a / 4) &&& 858993459)
  let c := (b + b / 16) &&& 252645135
  let d := c + c / 256
  let e := d + d / 65536
  e &&& 63
theorem us_n {n k : Nat} (hn : n < 2 ^ 31) (hk : k < 32) : us (nI n) (nI k) = nI (n / 2 ^ k) := by
  have q : ∀ k : Fin 32, (((nI k.1).toUInt32 &&& Int32.toUInt32 31).toBitVec % 32).toNat = k.1 := by decide +kernel
  exact pk_ushrN (by omega) (nI k) k (q ⟨k, hk⟩)
theorem bc_N {v : Nat} (hv : v < 4096) : bcV (nI v) = nI (bcN v) := by
  have h1 : (v / 2) &&& 1431655765 ≤ v / 2 := Nat.and_le_left
  have e1 : bc1 (nI v) = nI (v - ((v / 2) &&& 1431655765)) := by
    unfold bc1
    rw [show (1 : Int32) = nI 1 from rfl, us_n (by omega) (by decide), show (1431655765 : Int32) = nI 1431655765 from rfl, nx_and, Nat.pow_one, pk_sub (by omega)]
  generalize ha : v - ((v / 2) &&& 1431655765) = a at e1
  have ha2 : a < 4096 := by omega
  have h2 : a &&& 858993459 ≤ a := Nat.and_le_left
  have h3 : (a / 4) &&& 858993459 ≤ a / 4 := Nat.and_le_left
  have e2 : bc2 (nI a) = nI ((a &&& 858993459) + ((a / 4) &&& 858993459)) := by
    unfold bc2
    rw [show (2 : Int32) = nI 2 from rfl, us_n (by omega) (by decide), show (858993459 : Int32) = nI 858993459 from rfl, nx_and, nx_and, nI_add]
  generalize hb : (a &&& 858993459) + ((a / 4) &&& 858993459) = b at e2
  have hb2 : b < 8192 := by omega
  have h4 : (b + b / 16) &&& 252645135 ≤ b + b / 16 := Nat.and_le_left
  have e3 : bc3 (nI b) = nI ((b + b / 16) &&& 252645135) := by
    unfold bc3
    rw [show (4 : Int32) = nI 4 from rfl, us_n (by omega) (by decide), nI_add, show (252645135 : Int32) = nI 252645135 from rfl, nx_and]
  generalize hc : (b + b / 16) &&& 252645135 = c at e3
  have hc2 : c < 16384 := by omega
  have e4 : bc4 (nI c) = nI (c + c / 256) := by
    unfold bc4
    rw [show (8 : Int32) = nI 8 from rfl, us_n (by omega) (by decide), nI_add]
  have e5 : bc5 (nI (c + c / 256)) = nI (c + c / 256 + (c + c / 256) / 65536) := by
    unfold bc5
    rw [show (16 : Int32) = nI 16 from rfl, us_n (by omega) (by decide), nI_add]
  unfold bcV bcN
  rw [e1, e2, e3, e4, e5, show (63 : Int32) = nI 63 from rfl, nx_and]
  simp only [ha, hb, hc]
set_option maxRecDepth 100000 in
def bcA : Nat → Bool
  | 0 => true
  | n + 1 => Nat.beq (bcN n) (popN n) && bcA n
theorem bcA_at : ∀ n, bcA n = true → ∀ v, v < n → bcN v = popN v
  | 0, _, v, h => absurd h (Nat.not_lt_zero _)
  | n + 1, h, v, hv => by
    unfold bcA at h
    rw [Bool.and_eq_true] at h
    by_cases q : v = n
    · rw [q]
      exact Nat.eq_of_beq_eq_true h.1
    · exact bcA_at n h.2 v (by omega)
set_option maxRecDepth 100000 in
theorem bc_pop : ∀ v : Fin 4096, bcN v.1 = popN v.1 := fun v => bcA_at 4096 (by decide +kernel) v.1 v.2
theorem bit_n {v k : Nat} (hv : v < 4096) (hk : k < 24) : (nI v >>> (nI k &&& 31)) &&& 1 = nI (v / 2 ^ k % 2) := by
  rw [pk_shrN (by omega) _ k (s_l k (by omega)), show (1 : Int32) = nI 1 from rfl, pk_andN (by have := Nat.div_le_self v (2 ^ k); omega) 1 (by decide)]
theorem bits_N {v : Nat} (hv : v < 4096) : bitsV (nI v) = nI (popN v) := by
  have z : ∀ k, 12 ≤ k → v / 2 ^ k % 2 = 0 := fun k hk => by
    rw [Nat.div_eq_of_lt]
    exact Nat.lt_of_lt_of_le (show v < 2 ^ 12 from hv) (Nat.pow_le_pow_right (show 0 < 2 by decide) hk)
  unfold bitsV
  simp only [sumU]
  rw [bit_n hv (k := 0) (by decide), bit_n hv (k := 1) (by decide), bit_n hv (k := 2) (by decide), bit_n hv (k := 3) (by decide), bit_n hv (k := 4) (by decide), bit_n hv (k := 5) (by decide), bit_n hv (k := 6) (by decide), bit_n hv (k := 7) (by decide), bit_n hv (k := 8) (by decide), bit_n hv (k := 9) (by decide), bit_n hv (k := 10) (by decide), bit_n hv (k := 11) (by decide), bit_n hv (k := 12) (by decide), bit_n hv (k := 13) (by decide), bit_n hv (k := 14) (by decide), bit_n hv (k := 15) (by decide), bit_n hv (k := 16) (by decide), bit_n hv (k := 17) (by decide), bit_n hv (k := 18) (by decide), bit_n hv (k := 19) (by decide), bit_n hv (k := 20) (by decide), bit_n hv (k := 21) (by decide), bit_n hv (k := 22) (by decide), bit_n hv (k := 23) (by decide)]
  rw [z 12 (by decide), z 13 (by decide), z 14 (by decide), z 15 (by decide), z 16 (by decide), z 17 (by decide), z 18 (by decide), z 19 (by decide), z 20 (by decide), z 21 (by decide), z 22 (by decide), z 23 (by decide)]
  rw [show (0 : Int32) = nI 0 from rfl]
  simp only [nI_add]
  congr 1
  unfold popN
  simp
/-- both count bits alike -/
theorem bc_eq {v : Nat} (hv : v < 4096) : bcV (nI v) = bitsV (nI v) := by rw [bc_N hv, bits_N hv, bc_pop ⟨v, hv⟩]
theorem popN_b {v : Nat} : popN v ≤ 12 := by
  unfold popN
  omega
theorem rN_s (v : Nat → Nat → Int32) (s : Int32) (n : Nat) : rN v s 2 n = rN v 0 2 n := by
  unfold rN rgV
  congr 1
  refine sumU_c n (fun w _ => bI_congr ?_)
  have e : ∀ s : Int32, rgP v s 2 w ↔ gdP v w := by
    intro s
    constructor
    · rintro (q | ⟨q, -⟩ | ⟨-, q⟩ | ⟨q, -⟩)
      · exact absurd q (by decide)
      · exact absurd q (by decide)
      · exact q
      · exact absurd q (by decide)
    · intro q
      exact Or.inr (Or.inr (Or.inl ⟨rfl, q⟩))
  rw [e, e]
theorem odD_s (v : Nat → Nat → Int32) (s : Int32) (n : Nat) : odD v s n = odD v 0 n := by
  unfold odD
  rw [rN_s]
/-- the oddest of the first i heaps: its ways, its names -/
def obS (v : Nat → Nat → Int32) (n : Nat) : Nat → Nat × Nat
  | 0 => (odD v 0 n, 0)
  | i + 1 => if (bitsV (nI i) = 3 ∨ bitsV (nI i) = 4) ∧ odU v (nI i) n < (obS v n i).1 then (odU v (nI i) n, i) else obS v n i
theorem obS_b (v : Nat → Nat → Int32) {n : Nat} (hn : n ≤ 24) : ∀ i, (obS v n i).1 ≤ odD v 0 n ∧ (obS v n i).2 ≤ i
  | 0 => ⟨Nat.le_refl _, Nat.le_refl _⟩
  | i + 1 => by
    unfold obS
    have h := obS_b v hn i
    split
    · refine ⟨?_, by show i ≤ i + 1; omega⟩
      have := odU_le v (nI i) hn
      rw [odD_s] at this
      exact this
    · exact ⟨h.1, by omega⟩
def odsV (v : Nat → Nat → Int32) (a : Int32) (N n : Nat) : Int64 := if 0 ≤ a ∧ a ≤ 2 then (if (obS v n (2 ^ N)).2 = 0 then -4 else if a = 0 then (nI (obS v n (2 ^ N)).2).toInt64 else if a = 1 then lN ((obS v n (2 ^ N)).1 / Nat.gcd (obS v n (2 ^ N)).1 (odD v 0 n)) else lN (odD v 0 n / Nat.gcd (obS v n (2 ^ N)).1 (odD v 0 n))) else -1
theorem sel_i {i : Nat} (hi : i < 4096) : (3 ≤ bitsV (nI i) ∧ bitsV (nI i) ≤ 4) ↔ (bitsV (nI i) = 3 ∨ bitsV (nI i) = 4) := by
  rw [bits_N hi]
  have hb := popN_b (v := i)
  generalize popN i = p at hb
  have q : ∀ p : Fin 13, (3 ≤ nI p.1 ∧ nI p.1 ≤ 4) ↔ (nI p.1 = 3 ∨ nI p.1 = 4) := by decide
  exact q ⟨p, by omega⟩
theorem sel_0 : ¬ (bitsV (nI 0) = 3 ∨ bitsV (nI 0) = 4) := by
  rw [bits_N (by decide)]
  decide
set_option maxHeartbeats 4000000 in
set_option maxRecDepth 100000 in
theorem lpeX6_oddest {l : Launch} {g : Geo} {sta : Nat → Nat} {k : KT} (K : AOK (wX l g sta) mX6_oddest k) (h : HS) (a : Int32) (hok : 0 ≤ a ∧ a ≤ 2) {N T Wn : Nat} (H : XW h N T Wn) (ww : wrdW h N Wn) :
    ∀ (n i : Nat), i + n = 2 ^ N → AW (wX l g sta) (DL (odsV (vX h) a N Wn) h) 7 mX6_oddest k 43 [some (.ref (g.2.1 0)), some (.int a), some (.int (nI (rN (vX h) 0 2 Wn))), some (.long (lN (odD (vX h) 0 Wn))), none, some (.long (lN (obS (vX h) Wn i).1)), none, some (.int (nI (obS (vX h) Wn i).2)), some (.int (nI i)), none, none] [] h := by
  intro n
  have hN := p2N H.1.2
  have hW := H.2.2.1.2
  have dB := odD_b (vX h) 0 hW
  induction n with
  | zero =>
    intro i k1
    have oB := obS_b (vX h) hW (2 ^ N)
    obtain rfl : i = 2 ^ N := by omega
    refine aw_il8 K dX6_oddest_43 ?_
    refine aw_iconst (v := 1) K dX6_oddest_45 (by decide) ?_
    refine aw_al0 K dX6_oddest_46 ?_
    refine aw_getR K gX6_12 dX6_oddest_47 rfl rfl ?_
    refine aw_getI K gX6_161 dX6_oddest_50 rfl rfl ?_
    refine aw_ishl K dX6_oddest_53 ?_
    rw [shN H.1.1 H.1.2]
    refine aw_icmp_ge (tgt := 104) K dX6_oddest_54 (by decide) (fun b54 => ?_) (fun b54 => ?_)
    · refine aw_il7 K dX6_oddest_104 ?_
      refine aw_if_ne (tgt := 113) K dX6_oddest_106 (by decide) (fun b106 => ?_) (fun b106 => ?_)
      · have hz : ¬ (obS (vX h) Wn (2 ^ N)).2 = 0 := fun q => b106 (by rw [q]; rfl)
        refine aw_il1 K dX6_oddest_113 ?_
        refine aw_if_ne (tgt := 123) K dX6_oddest_114 (by decide) (fun b114 => ?_) (fun b114 => ?_)
        · refine aw_ll5 K dX6_oddest_123 ?_
          refine aw_ll3 K dX6_oddest_125 ?_
          refine aw_il1 K dX6_oddest_126 ?_
          refine aw_iconst (v := 1) K dX6_oddest_127 (by decide) ?_
          refine aw_icmp_ne (tgt := 135) K dX6_oddest_128 (by decide) (fun b128 => ?_) (fun b128 => ?_)
          · refine aw_iconst (v := 0) K dX6_oddest_135 (by decide) ?_
            refine aw_callS_L K (eX6_inLowest l g sta _ _ _ _ (by omega) (by omega) dB.1) rfl (by decide) fX6_inLowest lX6_247 dX6_oddest_136 rfl (Nat.le_of_ble_eq_true rfl) ?_
            refine aw_lret K rfl dX6_oddest_139 ?_
            refine ⟨?_, rfl⟩
            rw [odsV, if_pos hok, if_neg hz, if_neg b114, if_neg b128]
            rfl
          · refine aw_iconst (v := 1) K dX6_oddest_131 (by decide) ?_
            refine aw_goto (tgt := 136) K dX6_oddest_132 (by decide) ?_
            refine aw_callS_L K (eX6_inLowest l g sta _ _ _ _ (by omega) (by omega) dB.1) rfl (by decide) fX6_inLowest lX6_247 dX6_oddest_136 rfl (Nat.le_of_ble_eq_true rfl) ?_
            refine aw_lret K rfl dX6_oddest_139 ?_
            refine ⟨?_, rfl⟩
            rw [odsV, if_pos hok, if_neg hz, if_neg b114, if_pos b128]
            rfl
        · refine aw_il7 K dX6_oddest_117 ?_
          refine aw_i2l K dX6_oddest_119 ?_
          refine aw_goto (tgt := 139) K dX6_oddest_120 (by decide) ?_
          refine aw_lret K rfl dX6_oddest_139 ?_
          refine ⟨?_, rfl⟩
          rw [odsV, if_pos hok, if_neg hz, if_pos b114]
      · have hz : (obS (vX h) Wn (2 ^ N)).2 = 0 := (nI_eq (b := 0) (by omega) (by decide)).mp b106
        refine aw_ldc2 K qX6_268 dX6_oddest_109 ?_
        refine aw_lret K rfl dX6_oddest_112 ?_
        refine ⟨?_, rfl⟩
        rw [odsV, if_pos hok, if_pos hz]
    · exact absurd (Int32.le_refl _) b54
  | succ n ih =>
    intro i k1
    have hi : i < 4096 := by omega
    have oB := obS_b (vX h) hW i
    have uB := odU_b (vX h) (nI i) hW
    refine aw_il8 K dX6_oddest_43 ?_
    refine aw_iconst (v := 1) K dX6_oddest_45 (by decide) ?_
    refine aw_al0 K dX6_oddest_46 ?_
    refine aw_getR K gX6_12 dX6_oddest_47 rfl rfl ?_
    refine aw_getI K gX6_161 dX6_oddest_50 rfl rfl ?_
    refine aw_ishl K dX6_oddest_53 ?_
    rw [shN H.1.1 H.1.2]
    refine aw_icmp_ge (tgt := 104) K dX6_oddest_54 (by decide) (fun b54 => ?_) (fun b54 => ?_)
    · exact absurd b54 (nI_ge (by omega) (by omega))
    · refine aw_il8 K dX6_oddest_57 ?_
      refine aw_callS_I K (tJ6b l g sta _ _) rfl (by decide) fJ6_bitCount_0f7a4 lX6_171 dX6_oddest_59 rfl (Nat.le_of_ble_eq_true rfl) ?_
      rw [bc_eq hi]
      refine aw_iconst (v := 3) K dX6_oddest_62 (by decide) ?_
      refine aw_iconst (v := 4) K dX6_oddest_63 (by decide) ?_
      refine aw_callS_I K (tX6_within l g sta _ _ _ _) rfl (by decide) fX6_within lX6_76 dX6_oddest_64 rfl (Nat.le_of_ble_eq_true rfl) ?_
      refine aw_if_ne (tgt := 73) K dX6_oddest_67 (by decide) (fun b67 => ?_) (fun b67 => ?_)
      · have hs := (sel_i hi).mp (bI_1.mp b67)
        refine aw_al0 K dX6_oddest_73 ?_
        refine aw_il8 K dX6_oddest_74 ?_
        refine aw_il2 K dX6_oddest_76 ?_
        rw [← rN_s (vX h) (nI i)]
        refine aw_callV_L K (eX6_waysOf l g sta _ _ H ww) rfl (by decide) fX6_waysOf lX6_261 dX6_oddest_77 rfl clsX6 rfl (Nat.le_of_ble_eq_true rfl) ?_
        rw [rN_s (vX h) (nI i)]
        refine aw_ls9 K dX6_oddest_80 (by decide) rfl ?_
        refine aw_ll9 K dX6_oddest_82 ?_
        refine aw_ll5 K dX6_oddest_84 ?_
        refine aw_lcmp K dX6_oddest_86 ?_
        refine aw_if_ge (tgt := 98) K dX6_oddest_87 (by decide) (fun b87 => ?_) (fun b87 => ?_)
        · have hc : ¬ odU (vX h) (nI i) Wn < (obS (vX h) Wn i).1 := fun q => absurd ((lg_cmp_lt _ _).mpr ((pk_lLT (by omega) (by omega)).mpr q)) (Int32.not_lt.mpr b87)
          refine aw_ii8 (v := _ + 1) K dX6_oddest_98 rfl (by decide) rfl ?_
          refine aw_goto (tgt := 43) K dX6_oddest_101 (by decide) ?_
          rw [nI_1]
          refine aw_sub [some (.ref (g.2.1 0)), some (.int _), some (.int _), some (.long _), none, some (.long _), none, some (.int _), some (.int _), none, none] ⟨rfl, rfl, rfl, rfl, rfl, rfl, rfl, trivial⟩ ?_
          have z := ih (i + 1) (by omega)
          rw [show obS (vX h) Wn (i + 1) = obS (vX h) Wn i from if_neg (fun q => hc q.2)] at z
          exact z
        · have hc : odU (vX h) (nI i) Wn < (obS (vX h) Wn i).1 := (pk_lLT (by omega) (by omega)).mp ((lg_cmp_lt _ _).mp (Int32.not_le.mp b87))
          refine aw_ll9 K dX6_oddest_90 ?_
          refine aw_ls5 K dX6_oddest_92 (by decide) rfl ?_
          refine aw_il8 K dX6_oddest_94 ?_
          refine aw_is7 K dX6_oddest_96 (by decide) rfl ?_
          refine aw_ii8 (v := _ + 1) K dX6_oddest_98 rfl (by decide) rfl ?_
          refine aw_goto (tgt := 43) K dX6_oddest_101 (by decide) ?_
          rw [nI_1]
          refine aw_sub [some (.ref (g.2.1 0)), some (.int _), some (.int _), some (.long _), none, some (.long _), none, some (.int _), some (.int _), none, none] ⟨rfl, rfl, rfl, rfl, rfl, rfl, rfl, trivial⟩ ?_
          have z := ih (i + 1) (by omega)
          rw [show obS (vX h) Wn (i + 1) = (odU (vX h) (nI i) Wn, i) from if_pos ⟨hs, hc⟩] at z
          exact z
      · have hs : ¬ (bitsV (nI i) = 3 ∨ bitsV (nI i) = 4) := fun q => bI_0.mp b67 ((sel_i hi).mpr q)
        refine aw_goto (tgt := 98) K dX6_oddest_70 (by decide) ?_
        refine aw_ii8 (v := _ + 1) K dX6_oddest_98 rfl (by decide) rfl ?_
        refine aw_goto (tgt := 43) K dX6_oddest_101 (by decide) ?_
        rw [nI_1]
        refine aw_sub [some (.ref (g.2.1 0)), some (.int _), some (.int _), some (.long _), none, some (.long _), none, some (.int _), some (.int _), none, none] ⟨rfl, rfl, rfl, rfl, rfl, rfl, rfl, trivial⟩ ?_
        have z := ih (i + 1) (by omega)
        rw [show obS (vX h) Wn (i + 1) = obS (vX h) Wn i from if_neg (fun q => hs q.1)] at z
        exact z
set_option maxHeartbeats 4000000 in
set_option maxRecDepth 100000 in
theorem eX6_oddest (l : Launch) (g : Geo) (sta : Nat → Nat) (h : HS) (a : Int32) {N T Wn : Nat} (H : XW h N T Wn) (ww : wrdW h N Wn) : CT (wX l g sta) 7 mX6_oddest [.ref (g.2.1 0), .int a] h (DL (odsV (vX h) a N Wn) h) := by
  refine CT.at [some (.ref (g.2.1 0)), some (.int a), none, none, none, none, none, none, none, none, none] 9 rfl (by decide) (Nat.le_of_ble_eq_true rfl) (fun k K => ?_)
  refine aw_il1 K dX6_oddest_0 ?_
  refine aw_iconst (v := 0) K dX6_oddest_1 (by decide) ?_
  refine aw_iconst (v := 2) K dX6_oddest_2 (by decide) ?_
  refine aw_callS_I K (tX6_within l g sta _ _ _ _) rfl (by decide) fX6_within lX6_76 dX6_oddest_3 rfl (Nat.le_of_ble_eq_true rfl) ?_
  refine aw_if_ne (tgt := 13) K dX6_oddest_6 (by decide) (fun b6 => ?_) (fun b6 => ?_)
  · refine aw_al0 K dX6_oddest_13 ?_
    refine aw_sipush (v := 4095) K dX6_oddest_14 (by decide) ?_
    refine aw_iconst (v := 1) K dX6_oddest_17 (by decide) ?_
    refine aw_callV_I K (eX6_wordsWithin l g sta _ _ _ H) rfl (by decide) fX6_wordsWithin lX6_256 dX6_oddest_18 rfl clsX6 rfl (Nat.le_of_ble_eq_true rfl) ?_
    have hW := H.2.2.1.2
    rw [← rg_2 H.1.2 ww 0, (rN_i (vX h) 0 2 hW).1]
    refine aw_is2 K dX6_oddest_21 (by decide) rfl ?_
    refine aw_al0 K dX6_oddest_22 ?_
    refine aw_getR K gX6_26 dX6_oddest_23 rfl rfl ?_
    refine aw_getI K gX6_255 dX6_oddest_26 rfl rfl ?_
    rw [H.2.2.1.1]
    refine aw_il2 K dX6_oddest_29 ?_
    refine aw_callS_L K (eX6_choose l g sta _ _ _ (le24 (by have := (rN_i (vX h) 0 2 hW).2; omega))) rfl (by decide) fX6_choose lX6_265 dX6_oddest_30 rfl (Nat.le_of_ble_eq_true rfl) ?_
    rw [cB_c hW (show rN (vX h) 0 2 Wn ≤ 24 by have := (rN_i (vX h) 0 2 hW).2; omega)]
    refine aw_ls3 K dX6_oddest_33 (by decide) rfl ?_
    refine aw_ll3 K dX6_oddest_34 ?_
    refine aw_ls5 K dX6_oddest_35 (by decide) rfl ?_
    refine aw_iconst (v := 0) K dX6_oddest_37 (by decide) ?_
    refine aw_is7 K dX6_oddest_38 (by decide) rfl ?_
    refine aw_iconst (v := 0) K dX6_oddest_40 (by decide) ?_
    refine aw_is8 K dX6_oddest_41 (by decide) rfl ?_
    exact lpeX6_oddest K h a (bI_1.mp b6) H ww (2 ^ N) 0 (by omega)
  · refine aw_ldc2 K qX6_259 dX6_oddest_9 ?_
    refine aw_lret K rfl dX6_oddest_12 ?_
    refine ⟨?_, rfl⟩
    rw [odsV, if_neg (bI_0.mp b6)]

def bsM (v : Nat → Nat → Int32) (n i : Nat) : Int32 := if (obS v n i).2 = 0 then -4 else nI (obS v n i).2
set_option maxHeartbeats 4000000 in
set_option maxRecDepth 100000 in
theorem lpeX7_oddest {l : Launch} {g : Geo} {sta : Nat → Nat} {k : KT} (K : AOK (wM l g sta) mX7_oddest k) (h0 : HS) (a : Int32) (hok : 0 ≤ a ∧ a ≤ 2) {N T Wn : Nat} (H0 : MW h0 N T Wn) :
    ∀ (n i : Nat) (h : HS), i + n = 2 ^ N → h.1 = h0.1 → AW (wM l g sta) (fun o h' => o = some (.long (odsV h0.1 a N Wn)) ∧ MS h0 h') 7 mX7_oddest k 28 [some (.ref (g.2.1 0)), some (.int a), some (.long (lN ((obS h0.1 Wn i).1 / Nat.gcd (obS h0.1 Wn i).1 (odD h0.1 0 Wn)))), none, some (.long (lN (odD h0.1 0 Wn / Nat.gcd (obS h0.1 Wn i).1 (odD h0.1 0 Wn)))), none, some (.int (bsM h0.1 Wn i)), some (.int (nI i))] [] h := by
  intro n
  have hN := p2N H0.1.2
  have hW := H0.2.2.1.2
  have dB := odD_b h0.1 0 hW
  induction n with
  | zero =>
    intro i h k1 k2
    have H : MW h N T Wn := by unfold MW; rw [k2]; exact H0
    have hx : MS h0 h := ⟨fun c _ => by rw [k2], fun j _ _ _ => by rw [k2]⟩
    have oB := obS_b h0.1 hW (2 ^ N)
    obtain rfl : i = 2 ^ N := by omega
    refine aw_il7 K dX7_oddest_28 ?_
    refine aw_iconst (v := 1) K dX7_oddest_30 (by decide) ?_
    refine aw_al0 K dX7_oddest_31 ?_
    refine aw_getI K gX7_98 dX7_oddest_32 rfl rfl ?_
    refine aw_ishl K dX7_oddest_35 ?_
    rw [shN H.1.1 H.1.2]
    refine aw_icmp_ge (tgt := 101) K dX7_oddest_36 (by decide) (fun b36 => ?_) (fun b36 => ?_)
    · refine aw_il6 K dX7_oddest_101 ?_
      refine aw_bipush (v := (-4)) K dX7_oddest_103 (by decide) ?_
      refine aw_icmp_ne (tgt := 114) K dX7_oddest_105 (by decide) (fun b105 => ?_) (fun b105 => ?_)
      · have hz : ¬ (obS h0.1 Wn (2 ^ N)).2 = 0 := fun q => b105 (if_pos q)
        refine aw_il1 K dX7_oddest_114 ?_
        refine aw_if_ne (tgt := 124) K dX7_oddest_115 (by decide) (fun b115 => ?_) (fun b115 => ?_)
        · refine aw_il1 K dX7_oddest_124 ?_
          refine aw_iconst (v := 1) K dX7_oddest_125 (by decide) ?_
          refine aw_icmp_ne (tgt := 133) K dX7_oddest_126 (by decide) (fun b126 => ?_) (fun b126 => ?_)
          · refine aw_ll4 K dX7_oddest_133 ?_
            refine aw_lret K rfl dX7_oddest_135 ?_
            refine ⟨?_, hx⟩
            rw [odsV, if_pos hok, if_neg hz, if_neg b115, if_neg b126]
          · refine aw_ll2 K dX7_oddest_129 ?_
            refine aw_goto (tgt := 135) K dX7_oddest_130 (by decide) ?_
            refine aw_lret K rfl dX7_oddest_135 ?_
            refine ⟨?_, hx⟩
            rw [odsV, if_pos hok, if_neg hz, if_neg b115, if_pos b126]
        · refine aw_il6 K dX7_oddest_118 ?_
          refine aw_i2l K dX7_oddest_120 ?_
          refine aw_goto (tgt := 135) K dX7_oddest_121 (by decide) ?_
          refine aw_lret K rfl dX7_oddest_135 ?_
          refine ⟨?_, hx⟩
          rw [odsV, if_pos hok, if_neg hz, if_pos b115, bsM, if_neg hz]
      · have hz : (obS h0.1 Wn (2 ^ N)).2 = 0 := by
          apply Classical.byContradiction
          intro q
          have y : bsM h0.1 Wn (2 ^ N) = nI (obS h0.1 Wn (2 ^ N)).2 := if_neg q
          rw [y] at b105
          have u := nI_pos (n := (obS h0.1 Wn (2 ^ N)).2) (by omega)
          rw [b105] at u
          exact u (by decide)
        refine aw_ldc2 K qX7_312 dX7_oddest_108 ?_
        refine aw_goto (tgt := 135) K dX7_oddest_111 (by decide) ?_
        refine aw_lret K rfl dX7_oddest_135 ?_
        refine ⟨?_, hx⟩
        rw [odsV, if_pos hok, if_pos hz]
    · exact absurd (Int32.le_refl _) b36
  | succ n ih =>
    intro i h k1 k2
    have H : MW h N T Wn := by unfold MW; rw [k2]; exact H0
    have hi : i < 4096 := by omega
    have oB := obS_b h0.1 hW i
    have uL := odU_le h0.1 (nI i) hW
    rw [odD_s] at uL
    have cr := cross (U := odU h0.1 (nI i) Wn) (L := (obS h0.1 Wn i).1) dB.1
    have d1 : odU h0.1 (nI i) Wn / Nat.gcd (odU h0.1 (nI i) Wn) (odD h0.1 0 Wn) ≤ 2704156 := Nat.le_trans (Nat.div_le_self _ _) (by omega)
    have d2 : odD h0.1 0 Wn / Nat.gcd (obS h0.1 Wn i).1 (odD h0.1 0 Wn) ≤ 2704156 := Nat.le_trans (Nat.div_le_self _ _) (by omega)
    have d3 : (obS h0.1 Wn i).1 / Nat.gcd (obS h0.1 Wn i).1 (odD h0.1 0 Wn) ≤ 2704156 := Nat.le_trans (Nat.div_le_self _ _) (by omega)
    have d4 : odD h0.1 0 Wn / Nat.gcd (odU h0.1 (nI i) Wn) (odD h0.1 0 Wn) ≤ 2704156 := Nat.le_trans (Nat.div_le_self _ _) (by omega)
    have p1 := Nat.mul_le_mul d1 d2
    have p2 := Nat.mul_le_mul d3 d4
    refine aw_il7 K dX7_oddest_28 ?_
    refine aw_iconst (v := 1) K dX7_oddest_30 (by decide) ?_
    refine aw_al0 K dX7_oddest_31 ?_
    refine aw_getI K gX7_98 dX7_oddest_32 rfl rfl ?_
    refine aw_ishl K dX7_oddest_35 ?_
    rw [shN H.1.1 H.1.2]
    refine aw_icmp_ge (tgt := 101) K dX7_oddest_36 (by decide) (fun b36 => ?_) (fun b36 => ?_)
    · exact absurd b36 (nI_ge (by omega) (by omega))
    · refine aw_il7 K dX7_oddest_39 ?_
      refine aw_callS_I K (tX7_bits l g sta _ _) rfl (by decide) fX7_bits lX7_144 dX7_oddest_41 rfl (Nat.le_of_ble_eq_true rfl) ?_
      refine aw_iconst (v := 3) K dX7_oddest_44 (by decide) ?_
      refine aw_icmp_eq (tgt := 57) K dX7_oddest_45 (by decide) (fun b45 => ?_) (fun b45 => ?_)
      · refine aw_al0 K dX7_oddest_57 ?_
        refine aw_il7 K dX7_oddest_58 ?_
        refine aw_callV K (eX7_findOdds l g sta _ _ H) rfl (by decide) fX7_findOdds lX7_309 dX7_oddest_60 rfl clsX7 rfl (Nat.le_of_ble_eq_true rfl) (fun o h2 hq => ?_)
        obtain ⟨rfl, f1, f2, f3⟩ := hq
        rw [k2] at f2 f3
        rw [odD_s] at f2 f3
        have k3 : h2.1 = h0.1 := f1.trans k2
        refine aw_al0 K dX7_oddest_63 ?_
        refine aw_getL K gX7_296 dX7_oddest_64 rfl rfl ?_
        refine aw_ll4 K dX7_oddest_67 ?_
        skip
        refine aw_lmul K dX7_oddest_69 ?_
        rw [f2, lN_mul]
        refine aw_ll2 K dX7_oddest_70 ?_
        refine aw_al0 K dX7_oddest_71 ?_
        refine aw_getL K gX7_304 dX7_oddest_72 rfl rfl ?_
        refine aw_lmul K dX7_oddest_75 ?_
        rw [f3, lN_mul]
        refine aw_lcmp K dX7_oddest_76 ?_
        refine aw_if_ge (tgt := 95) K dX7_oddest_77 (by decide) (fun b77 => ?_) (fun b77 => ?_)
        · have hc : ¬ odU h0.1 (nI i) Wn < (obS h0.1 Wn i).1 := fun q => absurd ((lg_cmp_lt _ _).mpr ((pk_lLT (by omega) (by omega)).mpr (cr.mpr q))) (Int32.not_lt.mpr b77)
          refine aw_ii7 (v := _ + 1) K dX7_oddest_95 rfl (by decide) rfl ?_
          refine aw_goto (tgt := 28) K dX7_oddest_98 (by decide) ?_
          rw [nI_1]
          have z := ih (i + 1) h2 (by omega) k3
          unfold bsM at z ⊢
          rw [show obS h0.1 Wn (i + 1) = obS h0.1 Wn i from if_neg (fun q => hc q.2)] at z
          exact z
        · have hc : odU h0.1 (nI i) Wn < (obS h0.1 Wn i).1 := cr.mp ((pk_lLT (by omega) (by omega)).mp ((lg_cmp_lt _ _).mp (Int32.not_le.mp b77)))
          refine aw_al0 K dX7_oddest_80 ?_
          refine aw_getL K gX7_296 dX7_oddest_81 rfl rfl ?_
          refine aw_ls2 K dX7_oddest_84 (by decide) rfl ?_
          refine aw_al0 K dX7_oddest_85 ?_
          refine aw_getL K gX7_304 dX7_oddest_86 rfl rfl ?_
          refine aw_ls4 K dX7_oddest_89 (by decide) rfl ?_
          refine aw_il7 K dX7_oddest_91 ?_
          refine aw_is6 K dX7_oddest_93 (by decide) rfl ?_
          refine aw_ii7 (v := _ + 1) K dX7_oddest_95 rfl (by decide) rfl ?_
          refine aw_goto (tgt := 28) K dX7_oddest_98 (by decide) ?_
          rw [nI_1, f2, f3]
          have hs : bitsV (nI i) = 3 ∨ bitsV (nI i) = 4 := Or.inl b45
          have n0 : ¬ i = 0 := fun q => sel_0 (q ▸ hs)
          have z := ih (i + 1) h2 (by omega) k3
          unfold bsM at z
          rw [show obS h0.1 Wn (i + 1) = (odU h0.1 (nI i) Wn, i) from if_pos ⟨hs, hc⟩, if_neg n0] at z
          exact z
      · refine aw_il7 K dX7_oddest_48 ?_
        refine aw_callS_I K (tX7_bits l g sta _ _) rfl (by decide) fX7_bits lX7_144 dX7_oddest_50 rfl (Nat.le_of_ble_eq_true rfl) ?_
        refine aw_iconst (v := 4) K dX7_oddest_53 (by decide) ?_
        refine aw_icmp_ne (tgt := 95) K dX7_oddest_54 (by decide) (fun b54 => ?_) (fun b54 => ?_)
        · refine aw_ii7 (v := _ + 1) K dX7_oddest_95 rfl (by decide) rfl ?_
          refine aw_goto (tgt := 28) K dX7_oddest_98 (by decide) ?_
          rw [nI_1]
          have z := ih (i + 1) h (by omega) k2
          unfold bsM at z ⊢
          rw [show obS h0.1 Wn (i + 1) = obS h0.1 Wn i from if_neg (fun q => q.1.elim b45 b54)] at z
          exact z
        · refine aw_al0 K dX7_oddest_57 ?_
          refine aw_il7 K dX7_oddest_58 ?_
          refine aw_callV K (eX7_findOdds l g sta _ _ H) rfl (by decide) fX7_findOdds lX7_309 dX7_oddest_60 rfl clsX7 rfl (Nat.le_of_ble_eq_true rfl) (fun o h2 hq => ?_)
          obtain ⟨rfl, f1, f2, f3⟩ := hq
          rw [k2] at f2 f3
          rw [odD_s] at f2 f3
          have k3 : h2.1 = h0.1 := f1.trans k2
          refine aw_al0 K dX7_oddest_63 ?_
          refine aw_getL K gX7_296 dX7_oddest_64 rfl rfl ?_
          refine aw_ll4 K dX7_oddest_67 ?_
          skip
          refine aw_lmul K dX7_oddest_69 ?_
          rw [f2, lN_mul]
          refine aw_ll2 K dX7_oddest_70 ?_
          refine aw_al0 K dX7_oddest_71 ?_
          refine aw_getL K gX7_304 dX7_oddest_72 rfl rfl ?_
          refine aw_lmul K dX7_oddest_75 ?_
          rw [f3, lN_mul]
          refine aw_lcmp K dX7_oddest_76 ?_
          refine aw_if_ge (tgt := 95) K dX7_oddest_77 (by decide) (fun b77 => ?_) (fun b77 => ?_)
          · have hc : ¬ odU h0.1 (nI i) Wn < (obS h0.1 Wn i).1 := fun q => absurd ((lg_cmp_lt _ _).mpr ((pk_lLT (by omega) (by omega)).mpr (cr.mpr q))) (Int32.not_lt.mpr b77)
            refine aw_ii7 (v := _ + 1) K dX7_oddest_95 rfl (by decide) rfl ?_
            refine aw_goto (tgt := 28) K dX7_oddest_98 (by decide) ?_
            rw [nI_1]
            have z := ih (i + 1) h2 (by omega) k3
            unfold bsM at z ⊢
            rw [show obS h0.1 Wn (i + 1) = obS h0.1 Wn i from if_neg (fun q => hc q.2)] at z
            exact z
          · have hc : odU h0.1 (nI i) Wn < (obS h0.1 Wn i).1 := cr.mp ((pk_lLT (by omega) (by omega)).mp ((lg_cmp_lt _ _).mp (Int32.not_le.mp b77)))
            refine aw_al0 K dX7_oddest_80 ?_
            refine aw_getL K gX7_296 dX7_oddest_81 rfl rfl ?_
            refine aw_ls2 K dX7_oddest_84 (by decide) rfl ?_
            refine aw_al0 K dX7_oddest_85 ?_
            refine aw_getL K gX7_304 dX7_oddest_86 rfl rfl ?_
            refine aw_ls4 K dX7_oddest_89 (by decide) rfl ?_
            refine aw_il7 K dX7_oddest_91 ?_
            refine aw_is6 K dX7_oddest_93 (by decide) rfl ?_
            refine aw_ii7 (v := _ + 1) K dX7_oddest_95 rfl (by decide) rfl ?_
            refine aw_goto (tgt := 28) K dX7_oddest_98 (by decide) ?_
            rw [nI_1, f2, f3]
            have hs : bitsV (nI i) = 3 ∨ bitsV (nI i) = 4 := Or.inr b54
            have n0 : ¬ i = 0 := fun q => sel_0 (q ▸ hs)
            have z := ih (i + 1) h2 (by omega) k3
            unfold bsM at z
            rw [show obS h0.1 Wn (i + 1) = (odU h0.1 (nI i) Wn, i) from if_pos ⟨hs, hc⟩, if_neg n0] at z
            exact z
set_option maxHeartbeats 4000000 in
set_option maxRecDepth 100000 in
theorem eX7_oddest (l : Launch) (g : Geo) (sta : Nat → Nat) (h : HS) (a : Int32) {N T Wn : Nat} (H : MW h N T Wn) : CT (wM l g sta) 7 mX7_oddest [.ref (g.2.1 0), .int a] h ((fun o h' => o = some (.long (odsV h.1 a N Wn)) ∧ MS h h')) := by
  refine CT.at [some (.ref (g.2.1 0)), some (.int a), none, none, none, none, none, none] 6 rfl (by decide) (Nat.le_of_ble_eq_true rfl) (fun k K => ?_)
  refine aw_il1 K dX7_oddest_0 ?_
  refine aw_i2l K dX7_oddest_1 ?_
  refine aw_lconst (v := 0) K dX7_oddest_2 (by decide) ?_
  refine aw_ldc2 K qX7_226 dX7_oddest_3 ?_
  refine aw_callS_I K (in32 l g sta _ _ (0) (2) (by decide) (by decide)) rfl (by decide) fX7_in lX7_102 dX7_oddest_6 rfl (Nat.le_of_ble_eq_true rfl) ?_
  refine aw_if_ne (tgt := 16) K dX7_oddest_9 (by decide) (fun b9 => ?_) (fun b9 => ?_)
  · refine aw_lconst (v := 1) K dX7_oddest_16 (by decide) ?_
    refine aw_ls2 K dX7_oddest_17 (by decide) rfl ?_
    refine aw_lconst (v := 1) K dX7_oddest_18 (by decide) ?_
    refine aw_ls4 K dX7_oddest_19 (by decide) rfl ?_
    refine aw_bipush (v := (-4)) K dX7_oddest_21 (by decide) ?_
    refine aw_is6 K dX7_oddest_23 (by decide) rfl ?_
    refine aw_iconst (v := 0) K dX7_oddest_25 (by decide) ?_
    refine aw_is7 K dX7_oddest_26 (by decide) rfl ?_
    have dB := odD_b h.1 0 H.2.2.1.2
    have z := lpeX7_oddest K h a (bI_1.mp b9) H (2 ^ N) 0 h (by omega) rfl
    rw [show obS h.1 Wn 0 = (odD h.1 0 Wn, 0) from rfl, Nat.gcd_self, Nat.div_self dB.1] at z
    exact z
  · refine aw_ldc2 K qX7_307 dX7_oddest_12 ?_
    refine aw_lret K rfl dX7_oddest_15 ?_
    refine ⟨?_, MS.rf⟩
    rw [odsV, if_neg (bI_0.mp b9)]

theorem obS_eq {hx hm : HS} (r : REL hx hm) (n : Nat) : ∀ i, obS hm.1 n i = obS (vX hx) n i
  | 0 => by
    unfold obS
    rw [odD_eq r]
  | i + 1 => by
    unfold obS
    rw [obS_eq r n i, odU_eq r]
theorem ods_eq {hx hm : HS} (r : REL hx hm) (a : Int32) (N n : Nat) : odsV (vX hx) a N n = odsV hm.1 a N n := by
  unfold odsV
  rw [obS_eq r, odD_eq r]
/-- made: both count alike those who stood for the unmasked one -/
theorem st_bits {h : HS} {a : Int32} (hk : ∀ t, vp_in (h.1 21 t) 12) (T : Nat) : ∃ v, v < 4096 ∧ stF h a T = nI v := by
  refine ⟨(stF h a T).toBitVec.toNat, ?_, Int32.toBitVec_inj.mp (by show _ = BitVec.ofNat 32 _; simp)⟩
  have hz : ∀ i, 12 ≤ i → i < 32 → bt (stF h a T) i = false := by
    intro i h1 h2
    cases q : bt (stF h a T) i
    · rfl
    · unfold stF at q
      rw [orU_b h2] at q
      obtain ⟨j, h3, h4⟩ := q
      split at h4
      · obtain ⟨x, hx, ex⟩ := vp_in_of (hk j) (by decide)
        rw [ex, b_sh1 (by omega) h2] at h4
        have := of_decide_eq_true h4
        omega
      · rw [b_0] at h4
        exact absurd h4 (by decide)
  apply Classical.byContradiction
  intro hn
  obtain ⟨i, h1, h2⟩ := Nat.exists_ge_and_testBit_of_ge_two_pow (show (stF h a T).toBitVec.toNat ≥ 2 ^ 12 by omega)
  have h3 : i < 32 := by
    rcases Nat.lt_or_ge i 32 with q | q
    · exact q
    · rw [Nat.testBit_lt_two_pow (Nat.lt_of_lt_of_le (stF h a T).toBitVec.isLt (Nat.pow_le_pow_right (by decide) q))] at h2
      exact absurd h2 (by decide)
  have h4 := hz i h1 h3
  unfold bt at h4
  rw [BitVec.getLsbD, h2] at h4
  exact absurd h4 (by decide)
theorem made_eq {hx hm : HS} {N T Wn : Nat} (v : INV hx hm) (a : Int32) (H : XW hx N T Wn) : (madF hx a N T).1 = (madM hm a N T).1 := by
  rcases (jn_made v a H).1 with q | ⟨s, q1, q2, q3⟩
  · exact q
  · rw [q1, q2, q3]
    obtain ⟨x, h1, h2⟩ := st_bits (h := setI hx 18 a.toNatClampNeg (vp_nar .boolean 1)) (a := a) H.2.2.2.1 T
    rw [h2]
    exact bc_eq h1
