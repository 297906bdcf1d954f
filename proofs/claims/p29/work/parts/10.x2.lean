theorem setI_setR {h : HS} {c j : Nat} {f : Nat → Int32} {v : Int32} : setI (setR h c f) c j v = setR h c (upd f j v) := by
  simp only [setI, setR, if_true]
  congr 1
  funext a
  by_cases ha : a = c <;> simp [ha]
theorem setR_setR {h : HS} {c : Nat} {f f' : Nat → Int32} : setR (setR h c f) c f' = setR h c f' := by
  simp only [setR]
  congr 1
  funext a
  by_cases ha : a = c <;> simp [ha]
theorem setR_id {h : HS} {c : Nat} : setR h c (h.1 c) = h := by
  obtain ⟨a, b⟩ := h
  simp only [setR]
  congr 1
  funext x
  by_cases hx : x = c <;> simp [hx]
theorem rdR {h : HS} {c : Nat} {f : Nat → Int32} {a : Nat} : (setR h c f).1 a = if a = c then f else h.1 a := rfl
theorem rdI {h : HS} {c j : Nat} {v : Int32} {a b : Nat} : (setI h c j v).1 a b = if a = c ∧ b = j then v else h.1 a b := by
  simp only [setI, rdR]
  by_cases ha : a = c
  · subst ha
    by_cases hb : b = j <;> simp [upd, hb]
  · simp [ha]
theorem rdL1 {h : HS} {c j : Nat} {v : Int64} : (setL h c j v).1 = h.1 := rfl
theorem rdR2 {h : HS} {c : Nat} {f : Nat → Int32} : (setR h c f).2 = h.2 := rfl
theorem rdI2 {h : HS} {c j : Nat} {v : Int32} : (setI h c j v).2 = h.2 := rfl
theorem rdL {h : HS} {c j : Nat} {v : Int64} {a b : Nat} : (setL h c j v).2 a b = if a = c ∧ b = j then v else h.2 a b := by
  simp only [setL]
  by_cases ha : a = c
  · subst ha
    by_cases hb : b = j <;> simp [vp_updL, hb]
  · simp [ha]
/-- a row filled up to a place -/
def fil (f : Nat → Int32) (n : Nat) (v : Int32) : Nat → Int32 := fun j => if j < n then v else f j
theorem fil_0 (f : Nat → Int32) (v : Int32) : fil f 0 v = f := by funext j; simp [fil]
theorem fil_s (f : Nat → Int32) (i : Nat) (v : Int32) : upd (fil f i v) i v = fil f (i + 1) v := by
  funext j
  by_cases h1 : j = i
  · subst h1; simp [upd, fil]
  · by_cases h2 : j < i
    · simp [upd, fil, h1, h2, show j < i + 1 by omega]
    · simp [upd, fil, h1, h2, show ¬ j < i + 1 by omega]
theorem cw_maxl1 : Cond.static Lib.MathLoose.max_long.x ∈ aw_tb := aw_in 710 (by decide +kernel) rfl
theorem cw_maxl3 : Cond.code Lib.MathLoose.max_long.x Lib.MathLoose.max_long.code 4 (some .long) ∈ aw_tb := aw_in 711 (by decide +kernel) rfl
theorem aw_mmaxL {w : WT} {P : Option Value → HS → Prop} {d : Nat} {mi : MI} {k : KT} {pc : Nat} {L : List (Option Value)} {st : List Value} {h : HS} (K : AOK w mi k) {index : Nat} {x y : Int64} (c1 : Cond.methodLink mi.1.cls index Lib.MathLoose.max_long.x ∈ aw_tb) (c2 : Cond.static Lib.MathLoose.max_long.x ∈ aw_tb) (c3 : Cond.initialized "java/lang/Math" ∈ aw_tb) (c4 : Cond.code Lib.MathLoose.max_long.x Lib.MathLoose.max_long.code 4 (some .long) ∈ aw_tb) (hf : 1 ≤ d) (hlo : (st.map fun v => v.category).sum + 15 ≤ 36 * d) (hd : decode mi.2.1 pc = .ok (.invokestatic index, 3))
    (n : AW w P d mi k (pc + 3) L (.long (if y < x then x else y) :: st) h) : AW w P d mi k pc L (.long y :: .long x :: st) h := by
  obtain ⟨p, e, s, m, args, below, meth, c, A⟩ := k
  obtain ⟨k1, k2, k3, k4, k5, k6, k7, k8, k9, k10, k11⟩ := K
  exact fun H lo la a1 a2 a3 a4 => va_mmax_long k1 k2 (k3.trans a1.1.symm) k4 (k5 _ (List.mem_cons_of_mem _ c1)) (k5 _ (List.mem_cons_of_mem _ c2)) (k5 _ (List.mem_cons_of_mem _ c3)) (k5 _ (List.mem_cons_of_mem _ c4)) hf hlo (Nat.zero_le _) (Nat.zero_le _) hd (n H lo la a1 a2 a3 a4)
set_option maxHeartbeats 4000000 in
set_option maxRecDepth 100000 in
theorem lp_fill {l : Launch} {g : Geo} {sta : Nat → Nat} {P : Option Value → HS → Prop} {d : Nat} {k : KT} (K : AOK (wX l g sta) mJ7_fill_53178 k) (h : HS) (c N : Nat) (fs : List Nat) (v : Int32) (hc : layX[c]? = some (0, N, fs)) (hN : N < 2 ^ 31) (hP : P none (setR h c (fil (h.1 c) N v))) :
    ∀ n i : Nat, i ≤ N → N - i < n → AW (wX l g sta) P d mJ7_fill_53178 k 5 [some (.ref (g.2.1 c)), some (.int v), some (.int (nI i)), some (.int (nI N))] [] (setR h c (fil (h.1 c) i v)) := by
  intro n
  induction n with
  | zero => intro i h1 h2; omega
  | succ n ih =>
    intro i h1 h2
    refine aw_il2 K dJ7_fill_53178_5 ?_
    refine aw_il3 K dJ7_fill_53178_6 ?_
    refine aw_icmp_ge (tgt := 20) K dJ7_fill_53178_7 (by decide) (fun b7 => ?_) (fun b7 => ?_)
    · obtain rfl : i = N := by
        have := (nI_leI hN (by omega : i < 2 ^ 31)).mp b7
        omega
      refine aw_vret K rfl dJ7_fill_53178_20 ?_
      exact hP
    · have hlt : i < N := by
        rcases Nat.lt_or_ge i N with q | q
        · exact q
        · exact absurd (nI_le q (by omega)) b7
      refine aw_al0 K dJ7_fill_53178_10 ?_
      refine aw_il2 K dJ7_fill_53178_11 ?_
      refine aw_il1 K dJ7_fill_53178_12 ?_
      refine aw_iast K dJ7_fill_53178_13 hc (vp_in_nI hlt hN) ?_
      refine aw_ii2 (v := _ + 1) K dJ7_fill_53178_14 rfl (by decide) rfl ?_
      refine aw_goto (tgt := 5) K dJ7_fill_53178_17 (by decide) ?_
      rw [nI_1, nI_clamp (by omega), setI_setR, fil_s]
      exact ih (i + 1) (by omega) (by omega)
set_option maxHeartbeats 4000000 in
set_option maxRecDepth 100000 in
theorem tJ7_fill_53178 (l : Launch) (g : Geo) (sta : Nat → Nat) (h : HS) (c N : Nat) (fs : List Nat) (v : Int32) (hc : layX[c]? = some (0, N, fs)) (hN : N < 2 ^ 31) : CT (wX l g sta) 1 mJ7_fill_53178 [.ref (g.2.1 c), .int v] h (DV (setR h c (fil (h.1 c) N v))) := by
  refine CT.at [some (.ref (g.2.1 c)), some (.int v), none, none] 2 rfl (by decide) (Nat.le_of_ble_eq_true rfl) (fun k K => ?_)
  refine aw_iconst (v := 0) K dJ7_fill_53178_0 (by decide) ?_
  refine aw_is2 K dJ7_fill_53178_1 (by decide) rfl ?_
  refine aw_al0 K dJ7_fill_53178_2 ?_
  refine aw_alen K dJ7_fill_53178_3 hc rfl ?_
  refine aw_is3 K dJ7_fill_53178_4 (by decide) rfl ?_
  have e0 : setR h c (fil (h.1 c) 0 v) = h := by rw [fil_0, setR_id]
  have := lp_fill (P := DV (setR h c (fil (h.1 c) N v))) (d := 1) K h c N fs v hc hN ⟨rfl, rfl⟩ (N + 1) 0 (Nat.zero_le _) (by omega)
  rw [e0] at this
  exact this
set_option maxHeartbeats 4000000 in
set_option maxRecDepth 100000 in
theorem tX0_clear (l : Launch) (g : Geo) (sta : Nat → Nat) (h : HS) : CT (wX l g sta) 2 mX0_clear [.ref (g.2.1 5)] h (DV (setR (setR h 34 (fil (h.1 34) 196 0)) 35 (fil (h.1 35) 14 0))) := by
  refine CT.at [some (.ref (g.2.1 5))] 0 rfl (by decide) (Nat.le_of_ble_eq_true rfl) (fun k K => ?_)
  refine aw_al0 K dX0_clear_0 ?_
  refine aw_getR K gX0_11 dX0_clear_1 rfl rfl ?_
  refine aw_iconst (v := 0) K dX0_clear_4 (by decide) ?_
  refine aw_callS_V K (tJ7_fill_53178 l g sta _ 34 196 [] 0 rfl (by decide)) rfl (by decide) fJ7_fill_53178 lX0_30 dX0_clear_5 rfl (Nat.le_of_ble_eq_true rfl) ?_
  refine aw_al0 K dX0_clear_8 ?_
  refine aw_getR K gX0_15 dX0_clear_9 rfl rfl ?_
  refine aw_iconst (v := 0) K dX0_clear_12 (by decide) ?_
  refine aw_callS_V K (tJ7_fill_53178 l g sta _ 35 14 [] 0 rfl (by decide)) rfl (by decide) fJ7_fill_53178 lX0_30 dX0_clear_13 rfl (Nat.le_of_ble_eq_true rfl) ?_
  refine aw_vret K rfl dX0_clear_16 ?_
  exact ⟨rfl, rfl⟩

set_option maxHeartbeats 4000000 in
set_option maxRecDepth 100000 in
theorem tX2_isNothing (l : Launch) (g : Geo) (sta : Nat → Nat) (h : HS) (c : Nat) (hc : layX[c]? = some (5, 0, [c + 33 + 2, 0, 0])) : CT (wX l g sta) 1 mX2_isNothing [.ref (g.2.1 c)] h (DI (bI (h.1 c 2 = -1)) h) := by
  refine CT.at [some (.ref (g.2.1 c))] 0 rfl (by decide) (Nat.le_of_ble_eq_true rfl) (fun k K => ?_)
  refine aw_al0 K dX2_isNothing_0 ?_
  refine aw_getI K gX2_15 dX2_isNothing_1 hc rfl ?_
  refine aw_iconst (v := (-1)) K dX2_isNothing_4 (by decide) ?_
  refine aw_icmp_ne (tgt := 12) K dX2_isNothing_5 (by decide) (fun b5 => ?_) (fun b5 => ?_)
  · refine aw_iconst (v := 0) K dX2_isNothing_12 (by decide) ?_
    refine aw_zret K rfl dX2_isNothing_13 (by first | rfl | exact bI_nar _) ?_
    first
      | exact ⟨congrArg some (congrArg Value.int (bI_f b5).symm), rfl⟩
      | exact ⟨congrArg some (congrArg Value.int (bI_t b5).symm), rfl⟩
  · refine aw_iconst (v := 1) K dX2_isNothing_8 (by decide) ?_
    refine aw_goto (tgt := 13) K dX2_isNothing_9 (by decide) ?_
    refine aw_zret K rfl dX2_isNothing_13 (by first | rfl | exact bI_nar _) ?_
    first
      | exact ⟨congrArg some (congrArg Value.int (bI_f b5).symm), rfl⟩
      | exact ⟨congrArg some (congrArg Value.int (bI_t b5).symm), rfl⟩

