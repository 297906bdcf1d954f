/-! the ends of ties and words are names; the class's own notes on words are right -/
def wrdT (h : HS) (N T : Nat) : Prop := ∀ t, t < T → vp_in (h.1 21 t) N ∧ vp_in (h.1 22 t) N
def wrdW (h : HS) (N Wn : Nat) : Prop := ∀ w, w < Wn → vp_in (h.1 26 w) N ∧ vp_in (h.1 27 w) N ∧ h.1 32 w = ndV (h.1 28) (h.1 28 w) w ∧ h.1 31 w = (1 : Int32) <<< (h.1 26 w &&& 31) ||| (1 : Int32) <<< (h.1 27 w &&& 31)
def WRD (h : HS) : Prop := ∃ N T Wn, XW h N T Wn ∧ wrdT h N T ∧ wrdW h N Wn
theorem XW.un {h : HS} {N T Wn N' T' Wn' : Nat} (H : XW h N T Wn) (H' : XW h N' T' Wn') : N = N' ∧ T = T' ∧ Wn = Wn' := by
  obtain ⟨h1, h2, h3, -⟩ := H
  obtain ⟨k1, k2, k3, -⟩ := H'
  have e1 := h1.1.symm.trans k1.1
  have e2 := h2.1.symm.trans k2.1
  have e3 := h3.1.symm.trans k3.1
  exact ⟨(nI_eq (by omega) (by omega)).mp e1, (nI_eq (by omega) (by omega)).mp e2, (nI_eq (by omega) (by omega)).mp e3⟩
theorem WRD.at {h : HS} {N T Wn : Nat} (v : WRD h) (H : XW h N T Wn) : wrdT h N T ∧ wrdW h N Wn := by
  obtain ⟨N', T', Wn', H', a, b⟩ := v
  obtain ⟨rfl, rfl, rfl⟩ := H.un H'
  exact ⟨a, b⟩
def wrc (c : Nat) : Bool := c == 1 || c == 2 || c == 3 || c == 21 || c == 22 || c == 24 || c == 26 || c == 27 || c == 28 || c == 31 || c == 32 || c == 38
theorem WRD.x {h h' : HS} {N T Wn : Nat} (v : WRD h) (H : XW h N T Wn) (H' : XW h' N T Wn) (e : ∀ c, c = 21 ∨ c = 22 ∨ c = 26 ∨ c = 27 ∨ c = 28 ∨ c = 31 ∨ c = 32 → h'.1 c = h.1 c) : WRD h' := by
  obtain ⟨a, b⟩ := v.at H
  refine ⟨N, T, Wn, H', fun t ht => ?_, fun w hw => ?_⟩
  · rw [e 21 (by decide), e 22 (by decide)]
    exact a t ht
  · rw [e 26 (by decide), e 27 (by decide), e 28 (by decide), e 31 (by decide), e 32 (by decide)]
    exact b w hw
theorem WRD.e {h h' : HS} (v : WRD h) (e : ∀ c, wrc c = true → h'.1 c = h.1 c) : WRD h' := by
  have v' := v
  obtain ⟨N, T, Wn, H, -, -⟩ := v'
  refine v.x H (H.e (fun c hc => e c ?_)) (fun c hc => e c ?_)
  · rcases hc with rfl | rfl | rfl | rfl | rfl | rfl | rfl | rfl | rfl <;> rfl
  · rcases hc with rfl | rfl | rfl | rfl | rfl | rfl | rfl <;> rfl
theorem WRD.pt {h : HS} {c j : Nat} {v0 : Int32} (v : WRD h) (hc : wrc c = false) : WRD (setI h c j v0) := v.e (fun a ha => setI_w (fun q => by rw [q, hc] at ha; cases ha))
theorem WRD.rw_ {h : HS} {c : Nat} {f : Nat → Int32} (v : WRD h) (hc : wrc c = false) : WRD (setR h c f) := v.e (fun a ha => by rw [rdR, if_neg (fun q => by rw [q, hc] at ha; cases ha)])
theorem WRD.q {h h' : HS} (v : WRD h) (q : XQ h h') : WRD h' := by
  have v' := v
  obtain ⟨N, T, Wn, H, -, -⟩ := v'
  refine v.x H (H.q q) (fun c hc => q.1 c ?_)
  rcases hc with rfl | rfl | rfl | rfl | rfl | rfl | rfl <;> rfl
theorem wr_name {h : HS} (v : WRD h) (a : Int32) : WRD (nameF h a).2 := by
  obtain ⟨N, T, Wn, H, c, d⟩ := id v
  unfold nameF enF
  split
  · split
    · rename_i q
      have hN : N < 12 := by
        rw [H.1.1] at q
        exact (nI_ltI (b := 12) (by have := H.1.2; omega) (by decide)).mp q
      refine ⟨N + 1, T, Wn, H.nm hN, fun t ht => ?_, fun w hw => ?_⟩
      · exact ⟨vp_mono (c t ht).1 (Nat.le_succ _), vp_mono (c t ht).2 (Nat.le_succ _)⟩
      · exact ⟨vp_mono (d w hw).1 (Nat.le_succ _), vp_mono (d w hw).2.1 (Nat.le_succ _), (d w hw).2.2⟩
    · exact v
  · exact v
theorem wr_seed {h : HS} (v : WRD h) (a b : Int32) : WRD (seedF h a b).2 := by
  unfold seedF
  split
  · exact v.pt rfl
  · exact v
theorem wr_pledge {h : HS} (v : WRD h) (a b : Int32) : WRD (pledF h a b).2 := by
  unfold pledF
  split
  · split
    · exact v.pt rfl
    · exact v
  · exact v
theorem wr_tie {h : HS} (v : WRD h) (a b c e : Int32) : WRD (tieF h a b c e).2 := by
  obtain ⟨N, T, Wn, H, wt, ww⟩ := id v
  unfold tieF tenF
  split
  · rename_i g
    split
    · rename_i q
      split
      · · have hT : T < 24 := by
            rw [H.2.1.1] at q
            exact (nI_ltI (b := 24) (by have := H.2.1.2; omega) (by decide)).mp q
          have hN := H.1.2
          have ea : vp_in a N := inN H.1.1 (Nat.le_refl _) (by omega) g.1.1
          have eb : vp_in b N := inN H.1.1 (Nat.le_refl _) (by omega) g.1.2.1
          have ej : (h.1 2 5).toNatClampNeg = T := by rw [H.2.1.1, nI_clamp (by omega)]
          rw [ej]
          refine ⟨N, T + 1, Wn, H.ti hT (vp_mono ea hN) (vp_mono eb hN) (inB (M := 3) (by decide) g.2.2), fun t ht => ?_, ww⟩
          show vp_in (upd (h.1 21) T a t) N ∧ vp_in (upd (h.1 22) T b t) N
          unfold upd
          by_cases y : t = T
          · rw [if_pos y, if_pos y]
            exact ⟨ea, eb⟩
          · rw [if_neg y, if_neg y]
            exact wt t (by omega)
      · exact v
    · exact v
  · exact v
theorem wr_renew {h : HS} (v : WRD h) (a : Int32) : WRD (renF h a).2 := by
  unfold renF
  split
  · split
    · exact v
    · exact v.pt rfl
  · exact v
theorem wr_day {h : HS} (v : WRD h) (a : Int32) : WRD (dayF h a).2 := by
  unfold dayF
  split
  · exact v.pt rfl
  · exact v
theorem wr_end {h : HS} (v : WRD h) (a : Int32) : WRD (endF h a).2 := by
  unfold endF
  split
  · exact v.pt rfl
  · exact v
theorem wr_made {h : HS} (v : WRD h) (a : Int32) (N T : Nat) : WRD (madF h a N T).2 := by
  unfold madF
  split
  · split
    · exact (v.pt rfl).rw_ rfl
    · exact v
  · exact v
theorem wr_fdX {h : HS} (v : WRD h) (x : Int64) : ∀ k, WRD (fdX h x k)
  | 0 => v
  | k + 1 => ((wr_fdX v x k).pt rfl).pt rfl
theorem wr_feed {h : HS} (v : WRD h) (x : Int64) : WRD (feedF h x).2 := by
  unfold feedF
  split
  · exact wr_fdX v x 8
  · exact v
theorem wr_sheet {h : HS} (v : WRD h) (a b c : Int32) : WRD (sheetF h a b c).2 := by
  unfold sheetF
  split
  · rename_i q
    split
    · obtain ⟨j, hj, rfl⟩ := sh_in q.1
      rw [nI_clamp (show j < 2 ^ 31 by omega)]
      have u : ∀ j, j < 4 → wrc (7 + j) = false ∧ wrc (7 + j + 33) = false := by decide
      exact ((v.rw_ (u j hj).2).pt (u j hj).1).pt (u j hj).1
    · exact v
  · exact v
theorem wr_lay {h : HS} (v : WRD h) (a b c : Int32) : WRD (layF h a b c).2 := by
  unfold layF
  split
  · rename_i q
    obtain ⟨j, hj, rfl⟩ := sh_in q
    rw [nI_clamp (show j < 2 ^ 31 by omega)]
    have u : ∀ j, j < 4 → wrc (7 + j + 33) = false := by decide
    unfold putF
    split
    · split
      · exact v.pt (u j hj)
      · exact v
    · exact v
  · exact v
theorem wr_rules {h h' : HS} {R : Int32 × Int32 × (Nat → Int32)} (v : WRD h) (p : rulX h h' R) : WRD h' := by
  refine v.e (fun c hc => p.1 c ?_ ?_ ?_)
  all_goals (rintro rfl; cases hc)
/-! words -/
theorem ndB_V (h : HS) (a : Int32) : ∀ n, ndB h a n = ndV (h.1 28) a n
  | 0 => rfl
  | n + 1 => by
    unfold ndB ndV
    rw [ndB_V h a n]
theorem ndV_c {d d' : Nat → Int32} {a : Int32} : ∀ n, (∀ u, u < n → d' u = d u) → ndV d' a n = ndV d a n
  | 0, _ => rfl
  | n + 1, e => by
    unfold ndV
    rw [e n (by omega), ndV_c n (fun u hu => e u (by omega))]
theorem nar01 {x : Int32} (h : x = 1 ∨ x = 0) : vp_nar .boolean x = x := by
  rcases h with rfl | rfl <;> rfl
theorem wen_r {h : HS} {a b c e z : Int32} {Wn : Nat} (q : h.1 3 7 < 24) : (wenF h a b c e z Wn).2.1 26 = upd (h.1 26) (h.1 3 7).toNatClampNeg a ∧ (wenF h a b c e z Wn).2.1 27 = upd (h.1 27) (h.1 3 7).toNatClampNeg b ∧ (wenF h a b c e z Wn).2.1 28 = upd (h.1 28) (h.1 3 7).toNatClampNeg c ∧ (wenF h a b c e z Wn).2.1 31 = upd (h.1 31) (h.1 3 7).toNatClampNeg ((1 : Int32) <<< (a &&& 31) ||| (1 : Int32) <<< (b &&& 31)) ∧ (wenF h a b c e z Wn).2.1 32 = upd (h.1 32) (h.1 3 7).toNatClampNeg (vp_nar .boolean (ndB h c Wn)) ∧ (wenF h a b c e z Wn).2.1 21 = h.1 21 ∧ (wenF h a b c e z Wn).2.1 22 = h.1 22 := by
  unfold wenF
  rw [if_pos q]
  exact ⟨rfl, rfl, rfl, rfl, rfl, rfl, rfl⟩
theorem wr_say {h : HS} {a b c e z : Int32} {N T Wn : Nat} (v : WRD h) (H : XW h N T Wn) (hw : Wn < 24) (ha : vp_in a N) (hb : vp_in b N) : WRD (wenF h a b c e z Wn).2 := by
  obtain ⟨wt, ww⟩ := v.at H
  have hN := H.1.2
  have q : h.1 3 7 < 24 := by
    rw [H.2.2.1.1]
    exact nI_lt (b := 24) (by omega) (by decide)
  obtain ⟨r1, r2, r3, r4, r5, r6, r7⟩ := wen_r (a := a) (b := b) (c := c) (e := e) (z := z) (Wn := Wn) q
  have ej : (h.1 3 7).toNatClampNeg = Wn := by rw [H.2.2.1.1, nI_clamp (by omega)]
  rw [ej] at r1 r2 r3 r4 r5
  refine ⟨N, T, Wn + 1, wen_XW H (vp_mono ha hN) (vp_mono hb hN) hw, fun t ht => ?_, fun w hw2 => ?_⟩
  · rw [r6, r7]
    exact wt t ht
  · rw [r1, r2, r3, r4, r5]
    by_cases y : w = Wn
    · subst y
      have e1 : ∀ (f : Nat → Int32) (x : Int32), upd f w x w = x := fun f x => if_pos rfl
      rw [e1, e1, e1, e1, e1, ndB_V, nar01 (ndV_01 _ _ _)]
      refine ⟨ha, hb, ?_, rfl⟩
      exact (ndV_c w (fun u hu => if_neg (by omega))).symm
    · have e1 : ∀ (f : Nat → Int32) (x : Int32), upd f Wn x w = f w := fun f x => if_neg y
      rw [e1, e1, e1, e1, e1]
      obtain ⟨d1, d2, d3, d4⟩ := ww w (by omega)
      refine ⟨d1, d2, ?_, d4⟩
      rw [d3]
      exact (ndV_c w (fun u hu => if_neg (by omega))).symm
theorem wr_word {h : HS} {N T Wn : Nat} (v : WRD h) (H : XW h N T Wn) (a b c e : Int32) : WRD (wordF h a b c e Wn).2 := by
  unfold wordF
  split
  · rename_i q
    have r := ref_0 q
    have hN := H.1.2
    have hw : Wn < 24 := by
      have z := r.2.2
      rw [H.2.2.1.1, Int32.add_zero] at z
      have := H.2.2.1.2
      exact (nI_ltI (b := 24) (by omega) (by decide)).mp z
    exact wr_say v H hw (inN H.1.1 (Nat.le_refl _) (by omega) r.1) (inN H.1.1 (Nat.le_refl _) (by omega) r.2.1)
  · exact v
theorem rdGo_or {h : HS} {c m Wk : Nat} {dn : Int32 × HS} : ∀ n, n ≤ Wk → (rdGo h c m Wk dn n).2 = h ∨ (rdGo h c m Wk dn n = dn ∧ ∀ q, Wk - n ≤ q → q < Wk → chkV h c (m + 4 * q) (nI q) = 0)
  | 0, _ => Or.inr ⟨rfl, fun q h1 h2 => by omega⟩
  | n + 1, hn => by
    unfold rdGo
    by_cases z : chkV h c (m + 4 * (Wk - (n + 1))) (nI (Wk - (n + 1))) = 0
    · rw [if_pos z]
      rcases rdGo_or (h := h) (c := c) (m := m) (Wk := Wk) (dn := dn) n (by omega) with y | ⟨y, y2⟩
      · exact Or.inl y
      · refine Or.inr ⟨y, fun q h1 h2 => ?_⟩
        by_cases u : q = Wk - (n + 1)
        · subst u
          exact z
        · exact y2 q (by omega) h2
    · rw [if_neg z]
      exact Or.inl rfl
theorem wr_rdS {h : HS} {c m Wk N T Wn : Nat} (v : WRD h) (H : XW h N T Wn) (hn : nwd (c + 33) = true) (hW : Wk ≤ 12) (hall : ∀ j, j < Wk → chkV h c (m + 4 * j) (nI j) = 0) : ∀ i, i ≤ Wk → WRD (rdS h c m Wn i)
  | 0, _ => v
  | i + 1, hi => by
    have z := wr_rdS v H hn hW hall i (by omega)
    have r := ref_0 (hall i (by omega))
    have hN := H.1.2
    have hw : Wn + i < 24 := by
      have q := r.2.2
      rw [H.2.2.1.1, nI_add] at q
      have := H.2.2.1.2
      exact (nI_ltI (b := 24) (by omega) (by decide)).mp q
    show WRD (rdE (rdS h c m Wn i) c (m + 4 * i) (Wn + i))
    refine wr_say z (rdS_XW H hn hW hall i (by omega)) hw ?_ ?_
    · rw [rdS_o hn]
      exact inN H.1.1 (Nat.le_refl _) (by omega) r.1
    · rw [rdS_o hn]
      exact inN H.1.1 (Nat.le_refl _) (by omega) r.2.1
theorem wr_read {h : HS} {N T Wn : Nat} (v : WRD h) (H : XW h N T Wn) (hz : ∀ j, j < 4 → SZ h (7 + j)) (a b f n : Int32) : WRD (readF h a b f n Wn).2 := by
  unfold readF
  split
  · rename_i q
    obtain ⟨j, hj, rfl⟩ := sh_in q.1
    rw [nI_clamp (show j < 2 ^ 31 by omega)]
    obtain ⟨Wk, w1, w2, -⟩ := ww_in (la := b) (f := f) (hz j hj) q.2.2
    rw [w1, nI_clamp (show Wk < 2 ^ 31 by omega)]
    rcases rdGo_or (h := h) (c := 7 + j) (m := f.toNatClampNeg) (Wk := Wk) (dn := (nI Wk, setI (rdS h (7 + j) f.toNatClampNeg Wn Wk) 0 12 (forV (rdS h (7 + j) f.toNatClampNeg Wn Wk) (7 + j) b n (nI Wk)))) Wk (Nat.le_refl _) with y | ⟨y, y2⟩
    · rw [y]
      exact v
    · rw [y]
      exact (wr_rdS v H (nw4 j hj).1 w2 (fun x hx => y2 x (by omega) hx) Wk (Nat.le_refl _)).pt rfl
  · exact v
theorem wrd_0 : WRD hX0 := ⟨0, 0, 0, ⟨⟨rfl, by decide⟩, ⟨rfl, by decide⟩, ⟨rfl, by decide⟩, fun _ => vp_in_nI (n := 0) (by decide) (by decide), fun _ => vp_in_nI (n := 0) (by decide) (by decide), fun _ => vp_in_nI (n := 0) (by decide) (by decide), fun _ => vp_in_nI (n := 0) (by decide) (by decide), fun _ => vp_in_nI (n := 0) (by decide) (by decide), fun _ => vp_in_nI (n := 0) (by decide) (by decide)⟩, fun _ h => absurd h (Nat.not_lt_zero _), fun _ h => absurd h (Nat.not_lt_zero _)⟩
/-- side by side, with the class's own notes -/
def INW (hx hm : HS) : Prop := INV hx hm ∧ WRD hx
