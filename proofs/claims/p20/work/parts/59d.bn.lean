/-! numbers that stay small; n calls are behind it -/
def rg (x : Int32) (m : Int) : Prop := 0 ≤ x.toInt ∧ x.toInt ≤ m
def BN (h : HS) (n : Nat) : Prop := (∀ k, k < 10 → aw_r1 k ≤ h.1 11 k ∧ h.1 11 k ≤ aw_r2 k) ∧ (∀ a, rg (h.1 20 a) (999 * (n : Int))) ∧ (∀ t, rg (h.1 23 t) 999) ∧ rg (h.1 0 11) 9999 ∧ (∀ t, rg (h.1 25 t) (h.1 0 11).toInt) ∧ (∀ w, rg (h.1 29 w) 10) ∧ (∀ w, rg (h.1 30 w) (h.1 0 11).toInt) ∧ ∀ a, rg (h.1 16 a) 999
def bnc (c : Nat) : Bool := c == 0 || c == 11 || c == 16 || c == 20 || c == 23 || c == 25 || c == 29 || c == 30
theorem BN.mono {h : HS} {n n' : Nat} (b : BN h n) (hn : n ≤ n') : BN h n' := by
  obtain ⟨b1, b2, b3⟩ := b
  refine ⟨b1, fun a => ?_, b3⟩
  have := b2 a
  unfold rg at this ⊢
  omega
theorem BN.e {h h' : HS} {n : Nat} (b : BN h n) (e : ∀ c, bnc c = true → c ≠ 0 → h'.1 c = h.1 c) (e0 : h'.1 0 11 = h.1 0 11) : BN h' n := by
  obtain ⟨b1, b2, b3, b4, b5, b6, b7, b8⟩ := b
  unfold BN
  rw [e 11 rfl (by decide), e 20 rfl (by decide), e 23 rfl (by decide), e 25 rfl (by decide), e 29 rfl (by decide), e 30 rfl (by decide), e 16 rfl (by decide), e0]
  exact ⟨b1, b2, b3, b4, b5, b6, b7, b8⟩
theorem BN.pt {h : HS} {n c j : Nat} {v : Int32} (b : BN h n) (hc : bnc c = false) : BN (setI h c j v) n := b.e (fun a ha _ => setI_w (fun q => by rw [q, hc] at ha; cases ha)) (by rw [setI_w (fun q => by rw [← q] at hc; cases hc)])
theorem BN.rw_ {h : HS} {n c : Nat} {f : Nat → Int32} (b : BN h n) (hc : bnc c = false) : BN (setR h c f) n := b.e (fun a ha _ => by rw [rdR, if_neg (fun q => by rw [q, hc] at ha; cases ha)]) (by rw [rdR, if_neg (fun q => by rw [← q] at hc; cases hc)])
theorem BN.p0 {h : HS} {n j : Nat} {v : Int32} (b : BN h n) (hj : j ≠ 11) : BN (setI h 0 j v) n := b.e (fun a _ h0 => setI_w h0) (by rw [rdI, if_neg (fun q => hj q.2.symm)])
theorem BN.q {h h' : HS} {n : Nat} (b : BN h n) (q : XQ h h') : BN h' n := b.e (fun c hc h0 => q.1 c (by
  cases z : scr c
  · rfl
  · simp only [scr, Bool.or_eq_true, beq_iff_eq] at z
    rcases z with ((((((((rfl | rfl) | rfl) | rfl) | rfl) | rfl) | rfl) | rfl) | rfl) | rfl <;> cases hc)) (by rw [q.1 0 rfl])
theorem rg_u {f : Nat → Int32} {m : Int} {j : Nat} {v : Int32} (h : ∀ x, rg (f x) m) (hv : rg v m) (x : Nat) : rg (upd f j v x) m := by
  unfold upd
  split
  · exact hv
  · exact h x
theorem rg_k {a : Int32} {k : Nat} (hk : k < 2 ^ 31) (h : 0 ≤ a ∧ a ≤ nI k) : rg a k := (inK hk).mp h
theorem rg_p {a : Int32} {k : Nat} (hk : k < 2 ^ 31) (h : 1 ≤ a ∧ a ≤ nI k) : rg a k := by
  refine (inK hk).mp ⟨Int32.le_trans (by decide) h.1, h.2⟩
theorem bn_name {h : HS} {n : Nat} (b : BN h n) (a : Int32) : BN (nameF h a).2 n := by
  unfold nameF enF
  split
  · rename_i g
    split
    · refine BN.pt (c := 1) ?_ rfl
      obtain ⟨b1, b2, b3, b4, b5, b6, b7, b8⟩ := b
      exact ⟨b1, b2, b3, b4, b5, b6, b7, rg_u b8 (rg_k (k := 999) (by decide) g)⟩
    · exact b
  · exact b
theorem bn_seed {h : HS} {n : Nat} (v : BN h n) (a b : Int32) : BN (seedF h a b).2 n := by
  unfold seedF
  split
  · exact v.pt rfl
  · exact v
theorem bn_pledge {h : HS} {n : Nat} (v : BN h n) (hn : n ≤ 512) (a b : Int32) : BN (pledF h a b).2 (n + 1) := by
  unfold pledF
  split
  · rename_i g
    split
    · have v' := v.mono (Nat.le_succ n)
      have c := v.2.1 a.toNatClampNeg
      have d := rg_p (k := 999) (by decide) g.2
      obtain ⟨b1, b2, b3, b4, b5, b6, b7, b8⟩ := v'
      refine ⟨b1, rg_u b2 ?_, b3, b4, b5, b6, b7, b8⟩
      unfold rg at c d ⊢
      rw [toI_add (by omega) (by omega)]
      omega
    · exact v.mono (Nat.le_succ n)
  · exact v.mono (Nat.le_succ n)
theorem bn_tie {h : HS} {n : Nat} (v : BN h n) (a b c e : Int32) : BN (tieF h a b c e).2 n := by
  unfold tieF tenF
  split
  · rename_i g
    split
    · split
      · refine BN.pt (c := 2) ?_ rfl
        obtain ⟨b1, b2, b3, b4, b5, b6, b7, b8⟩ := v
        exact ⟨b1, b2, rg_u b3 (rg_p (k := 999) (by decide) g.2.1), b4, rg_u b5 ⟨b4.1, Int.le_refl _⟩, b6, b7, b8⟩
      · exact v
    · exact v
  · exact v
theorem bn_renew {h : HS} {n : Nat} (v : BN h n) (a : Int32) : BN (renF h a).2 n := by
  unfold renF
  split
  · split
    · exact v
    · obtain ⟨b1, b2, b3, b4, b5, b6, b7, b8⟩ := v
      exact ⟨b1, b2, b3, b4, rg_u b5 ⟨b4.1, Int.le_refl _⟩, b6, b7, b8⟩
  · exact v
theorem bn_day {h : HS} {n : Nat} (v : BN h n) (a : Int32) : BN (dayF h a).2 n := by
  unfold dayF
  split
  · rename_i g
    obtain ⟨b1, b2, b3, b4, b5, b6, b7, b8⟩ := v
    have g1 := Int32.le_iff_toInt_le.mp g.1
    have g2 := Int32.le_iff_toInt_le.mp g.2
    have e : (9999 : Int32).toInt = 9999 := by decide
    have e0 : (setI h 0 11 a).1 0 11 = a := by rw [rdI, if_pos ⟨rfl, rfl⟩]
    unfold rg at b4
    refine ⟨b1, b2, b3, ?_, fun t => ?_, b6, fun t => ?_, b8⟩
    · rw [e0]
      unfold rg
      omega
    · have := b5 t
      rw [e0]
      unfold rg at this ⊢
      show 0 ≤ (h.1 25 t).toInt ∧ (h.1 25 t).toInt ≤ a.toInt
      omega
    · have := b7 t
      rw [e0]
      unfold rg at this ⊢
      show 0 ≤ (h.1 30 t).toInt ∧ (h.1 30 t).toInt ≤ a.toInt
      omega
  · exact v
theorem bn_end {h : HS} {n : Nat} (v : BN h n) (a : Int32) : BN (endF h a).2 n := by
  unfold endF
  split
  · exact v.pt rfl
  · exact v
theorem bn_made {h : HS} {n : Nat} (v : BN h n) (a : Int32) (N T : Nat) : BN (madF h a N T).2 n := by
  unfold madF
  split
  · split
    · exact (v.pt rfl).rw_ rfl
    · exact v
  · exact v
theorem bn_fdX {h : HS} {n : Nat} (v : BN h n) (x : Int64) : ∀ k, BN (fdX h x k) n
  | 0 => v
  | k + 1 => ((bn_fdX v x k).pt rfl).pt rfl
theorem bn_feed {h : HS} {n : Nat} (v : BN h n) (x : Int64) : BN (feedF h x).2 n := by
  unfold feedF
  split
  · exact bn_fdX v x 8
  · exact v
theorem bn_sc {j : Nat} (hj : j < 4) : bnc (7 + j) = false ∧ bnc (7 + j + 33) = false := by
  have q : ∀ j : Fin 4, bnc (7 + j.1) = false ∧ bnc (7 + j.1 + 33) = false := by decide
  exact q ⟨j, hj⟩
theorem bn_sheet {h : HS} {n : Nat} (v : BN h n) (a b c : Int32) : BN (sheetF h a b c).2 n := by
  unfold sheetF rnwF
  split
  · rename_i q
    split
    · obtain ⟨j, hj, rfl⟩ := sh_in q.1
      rw [nI_clamp (show j < 2 ^ 31 by omega)]
      exact ((v.rw_ (bn_sc hj).2).pt (bn_sc hj).1).pt (bn_sc hj).1
    · exact v
  · exact v
theorem bn_lay {h : HS} {n : Nat} (v : BN h n) (a b c : Int32) : BN (layF h a b c).2 n := by
  unfold layF
  split
  · rename_i q
    obtain ⟨j, hj, rfl⟩ := sh_in q
    rw [nI_clamp (show j < 2 ^ 31 by omega)]
    split
    · have e : ∀ x y, (putF h (7 + j) x y) = h ∨ ∃ p z, putF h (7 + j) x y = setI h (7 + j + 33) p z := by
        intro x y
        unfold putF
        split
        · exact Or.inr ⟨_, _, rfl⟩
        · exact Or.inl rfl
      rcases e b c with q1 | ⟨p, z, q1⟩
      · show BN (putF h (7 + j) b c) n
        rw [q1]
        exact v
      · show BN (putF h (7 + j) b c) n
        rw [q1]
        exact v.pt (bn_sc hj).2
    · exact v
  · exact v
/-- the rules stay in their ranges -/
theorem prs_r {f : Nat → Int32} {L : Nat} : ∀ (k p : Nat) (t : Nat → Bool) (d : Nat → Int32) (n : Nat), (∀ j, j < 10 → aw_r1 j ≤ d j ∧ d j ≤ aw_r2 j) → ∀ j, j < 10 → aw_r1 j ≤ (prs f L k p t d n).2.2 j ∧ (prs f L k p t d n).2.2 j ≤ aw_r2 j
  | 0, _, _, _, _, h => h
  | k + 1, p, t, d, n, h => by
    unfold prs
    split
    · exact h
    · split
      · rename_i q
        refine prs_r k _ _ _ _ (fun j hj => ?_)
        unfold lnF at q ⊢
        split at q
        · exact absurd q (by show ¬ (1 : Int32) = 0; decide)
        · rename_i q1
          rw [if_neg q1]
          split at q
          · rename_i q2
            rw [if_pos q2]
            split at q
            · exact absurd q (by show ¬ (4 : Int32) = 0; decide)
            · rename_i q3
              rw [if_neg q3]
              obtain ⟨w1, w2, w3, w4⟩ := lnB_0 q
              rw [w4]
              unfold upd
              split
              · rename_i z
                rw [z]
                exact w2
              · exact h j hj
          · exact absurd q (by show ¬ (2 : Int32) = 0; decide)
      · exact h
theorem r0_in : ∀ j, j < 10 → aw_r1 j ≤ aw_r0 j ∧ aw_r0 j ≤ aw_r2 j := by
  have q : ∀ j : Fin 10, aw_r1 j.1 ≤ aw_r0 j.1 ∧ aw_r0 j.1 ≤ aw_r2 j.1 := by decide
  exact fun j hj => q ⟨j, hj⟩
theorem bn_rules {h h' : HS} {n k p m L : Nat} {f : Nat → Int32} {t : Nat → Bool} (v : BN h n) (x : rulX h h' (prs f L k p t aw_r0 m)) : BN h' n := by
  obtain ⟨x1, x2, x3, x4⟩ := x
  have e : ∀ c, c ≠ 4 → c ≠ 11 → c ≠ 12 → h'.1 c = h.1 c := x1
  obtain ⟨b1, b2, b3, b4, b5, b6, b7, b8⟩ := v
  unfold BN
  rw [e 20 (by decide) (by decide) (by decide), e 23 (by decide) (by decide) (by decide), e 25 (by decide) (by decide) (by decide), e 29 (by decide) (by decide) (by decide), e 30 (by decide) (by decide) (by decide), e 16 (by decide) (by decide) (by decide), e 0 (by decide) (by decide) (by decide)]
  refine ⟨fun j hj => ?_, b2, b3, b4, b5, b6, b7, b8⟩
  rw [x4]
  by_cases z : (prs f L k p t aw_r0 m).1 = 0
  · rw [if_pos z]
    show aw_r1 j ≤ (if j < 10 then _ else _) ∧ (if j < 10 then _ else _) ≤ aw_r2 j
    rw [if_pos hj]
    exact prs_r k p t aw_r0 m r0_in j hj
  · rw [if_neg z]
    exact b1 j hj
theorem ref_m {h : HS} {a b c e z : Int32} (q : refV h a b c e z = 0) : 0 ≤ e ∧ e ≤ 10 := by
  unfold refV at q
  split at q
  · rename_i y
    exact y.2.2
  · exact absurd q (by decide)
theorem bn_say {h : HS} {n Wn : Nat} {a b c e : Int32} (v : BN h n) (he : 0 ≤ e ∧ e ≤ 10) : BN (wenF h a b c e (h.1 0 11) Wn).2 n := by
  unfold wenF
  split
  · refine BN.pt (c := 3) ?_ rfl
    obtain ⟨b1, b2, b3, b4, b5, b6, b7, b8⟩ := v
    exact ⟨b1, b2, b3, b4, b5, rg_u b6 (rg_k (k := 10) (by decide) he), rg_u b7 ⟨b4.1, Int.le_refl _⟩, b8⟩
  · exact v
theorem bn_word {h : HS} {n : Nat} (v : BN h n) (a b c e : Int32) (Wn : Nat) : BN (wordF h a b c e Wn).2 n := by
  unfold wordF
  split
  · rename_i q
    exact bn_say v (ref_m q)
  · exact v
theorem bn_rdS {h : HS} {c m Wk Wn n : Nat} (v : BN h n) (hn : nwd (c + 33) = true) (hall : ∀ j, j < Wk → chkV h c (m + 4 * j) (nI j) = 0) : ∀ i, i ≤ Wk → BN (rdS h c m Wn i) n
  | 0, _ => v
  | i + 1, hi => by
    have z := bn_rdS (Wn := Wn) v hn hall i (by omega)
    show BN (rdE (rdS h c m Wn i) c (m + 4 * i) (Wn + i)) n
    refine bn_say z ?_
    rw [rdS_o hn]
    exact ref_m (hall i (by omega))
theorem bn_read {h : HS} {n Wn : Nat} (v : BN h n) (hz : ∀ j, j < 4 → SZ h (7 + j)) (a b f m : Int32) : BN (readF h a b f m Wn).2 n := by
  unfold readF
  split
  · rename_i q
    obtain ⟨j, hj, rfl⟩ := sh_in q.1
    rw [nI_clamp (show j < 2 ^ 31 by omega)]
    obtain ⟨Wk, w1, w2, -⟩ := ww_in (la := b) (f := f) (hz j hj) q.2.2
    rw [w1, nI_clamp (show Wk < 2 ^ 31 by omega)]
    rcases rdGo_or (h := h) (c := 7 + j) (m := f.toNatClampNeg) (Wk := Wk) (dn := (nI Wk, setI (rdS h (7 + j) f.toNatClampNeg Wn Wk) 0 12 (forV (rdS h (7 + j) f.toNatClampNeg Wn Wk) (7 + j) b m (nI Wk)))) Wk (Nat.le_refl _) with y | ⟨y, y2⟩
    · rw [y]
      exact v
    · rw [y]
      exact (bn_rdS v (nw4 j hj).1 (fun x hx => y2 x (by omega) hx) Wk (Nat.le_refl _)).p0 (by decide)
  · exact v
theorem bn_0 : BN hX0 0 := by
  have z : ∀ m : Int, 0 ≤ m → rg (0 : Int32) m := fun m hm => ⟨by decide, hm⟩
  refine ⟨fun k hk => ?_, fun _ => z _ (by decide), fun _ => z _ (by decide), z _ (by decide), fun _ => z (0 : Int32).toInt (by decide), fun _ => z _ (by decide), fun _ => z (0 : Int32).toInt (by decide), fun _ => z _ (by decide)⟩
  have e1 : hX0.1 11 k = va_cpy (aw_sf 0) (fun _ => 0) (Int32.toNatClampNeg 0) (Int32.toNatClampNeg 0) (Int32.toNatClampNeg 10) k := rfl
  rw [e1, cpy10 hk]
  exact r0_in k hk
/-! what is given and the rooms -/
theorem rg_mul {x y : Int32} {A B : Nat} (hx : rg x A) (hy : rg y B) (hAB : A * B < 2147483648) : rg (x * y) (A * B : Nat) := by
  obtain ⟨x1, x2⟩ := hx
  obtain ⟨y1, y2⟩ := hy
  obtain ⟨p, hp⟩ := Int.eq_ofNat_of_zero_le x1
  obtain ⟨q, hq⟩ := Int.eq_ofNat_of_zero_le y1
  have pA : p ≤ A := by omega
  have qB : q ≤ B := by omega
  have pq : p * q ≤ A * B := Nat.mul_le_mul pA qB
  have e : (x * y).toInt = ((p * q : Nat) : Int) := by
    rw [Int32.toInt_mul, hp, hq, ← Int.natCast_mul, Int.bmod_eq_of_le (by omega) (by omega)]
  unfold rg
  rw [e]
  omega
theorem rg_div {x d : Int32} {A D : Nat} (hx : rg x A) (hd : d.toInt = (D : Int)) (hD : 0 < D) : rg (x / d) (A / D : Nat) := by
  obtain ⟨x1, x2⟩ := hx
  obtain ⟨p, hp⟩ := Int.eq_ofNat_of_zero_le x1
  have pA : p ≤ A := by omega
  have pb := Int32.toInt_lt x
  have q := Nat.div_le_div_right (c := D) pA
  have q2 := Nat.div_le_self p D
  have e : (x / d).toInt = ((p / D : Nat) : Int) := by
    rw [Int32.toInt_div, hp, hd, ← Int.ofNat_tdiv]
    generalize p / D = z at q2 ⊢
    rw [Int.bmod_eq_of_le (by omega) (by omega)]
  unfold rg
  rw [e]
  generalize p / D = z at q ⊢
  generalize A / D = y at q ⊢
  omega
theorem rg_le {x : Int32} {A B : Int} (h : rg x A) (hB : A ≤ B) : rg x B := ⟨h.1, Int.le_trans h.2 hB⟩
theorem rg_rule {h : HS} {n k m : Nat} (b : BN h n) (hk : k < 10) (hm : aw_r2 k ≤ nI m) (h0 : 0 ≤ aw_r1 k) (h31 : m < 2 ^ 31) : rg (h.1 11 k) m := rg_k h31 ⟨Int32.le_trans h0 (b.1 k hk).1, Int32.le_trans (b.1 k hk).2 hm⟩
theorem BN.gv {h : HS} {n : Nat} (b : BN h n) (hn : n ≤ 512) (a : Nat) : rg (gvV (vX h) a) 600000 := by
  have c : rg (h.1 20 a) (511488 : Nat) := rg_le (b.2.1 a) (by omega)
  have r7 := rg_rule b (k := 7) (m := 100) (by decide) (by decide) (by decide) (by decide)
  have r6 := rg_rule b (k := 6) (m := 999) (by decide) (by decide) (by decide) (by decide)
  have p := rg_div (D := 100) (d := 100) (rg_mul c r7 (by decide)) (by decide) (by decide)
  unfold gvV
  split
  · split
    · rw [Int32.add_zero]
      exact rg_le p (by decide)
    · have e : plV (vX h) a = h.1 20 a * h.1 11 7 / 100 := rfl
      have e6 : vX h 11 6 = h.1 11 6 := rfl
      rw [e, e6]
      have p1 := p.1
      have p2 : _ ≤ (511488 : Int) := p.2
      have r1 := r6.1
      have r2 : _ ≤ (999 : Int) := r6.2
      unfold rg
      rw [toI_add (by omega) (by omega)]
      omega
  · exact ⟨by decide, by decide⟩
theorem rg_fd {x loss age : Int32} {A : Nat} (hx : rg x A) (hA : A ≤ 20000000) (hl : rg loss (100 : Nat)) (ha : rg age (9999 : Nat)) : rg (fdV x loss age) A := by
  have p := rg_div (D := 100) (d := 100) (rg_mul hl ha (by decide)) (by decide) (by decide)
  have p1 := p.1
  have p2 : _ ≤ (9999 : Int) := p.2
  have e100 : (100 : Int32).toInt = 100 := by decide
  have e : (100 - loss * age / 100).toInt = 100 - (loss * age / 100).toInt := by
    rw [toI_sub (by omega) (by omega), e100]
  have k : rg (if 0 < 100 - loss * age / 100 then 100 - loss * age / 100 else 0) (100 : Nat) := by
    split
    · rename_i q
      have := pos_I.mp q
      unfold rg
      omega
    · exact ⟨by decide, by decide⟩
  unfold fdV
  have z := rg_div (D := 100) (d := 100) (rg_mul hx k (by omega)) (by decide) (by decide)
  rw [Nat.mul_div_cancel A (by decide : 0 < 100)] at z
  exact z
theorem BN.age {h : HS} {n : Nat} (b : BN h n) {x : Int32} (hx : rg x (h.1 0 11).toInt) : rg (h.1 0 11 - x) (9999 : Nat) := by
  have t1 := b.2.2.2.1.1
  have t2 := b.2.2.2.1.2
  have x1 := hx.1
  have x2 := hx.2
  unfold rg
  rw [toI_sub (by omega) (by omega)]
  omega
theorem BN.rm {h : HS} {n : Nat} (b : BN h n) {N T Wn : Nat} (H : XW h N T Wn) (t : Nat) : rg (rmV (vX h) t) 999 := by
  obtain ⟨j, hj, ej⟩ := vp_in_of (H.2.2.2.2.2.1 t) (by decide)
  have r4 := rg_rule b (k := 4) (m := 100) (by decide) (by decide) (by decide) (by decide)
  have rj : rg (h.1 11 (h.1 24 t).toNatClampNeg) (100 : Nat) := by
    rw [ej, nI_clamp (by omega)]
    have q : ∀ j : Fin 4, aw_r2 j.1 ≤ nI 100 ∧ 0 ≤ aw_r1 j.1 := by decide
    exact rg_rule b (by omega) (q ⟨j, hj⟩).1 (q ⟨j, hj⟩).2 (by decide)
  have p := rg_div (D := 100) (d := 100) (rg_mul (A := 999) (b.2.2.1 t) rj (by decide)) (by decide) (by decide)
  have f := rg_fd (A := 999) p (by decide) r4 (b.age (b.2.2.2.2.1 t))
  unfold rmV
  split
  · exact ⟨by decide, by decide⟩
  · split
    · exact rg_le (rg_div (D := 2) (d := 2) f (by decide) (by decide)) (by decide)
    · exact f
theorem BN.sml {h : HS} {n : Nat} (b : BN h n) (hn : n ≤ 512) {N T Wn : Nat} (H : XW h N T Wn) : SML (vX h) N T := ⟨fun a _ => b.gv hn a, fun t _ => b.rm H t⟩
/-- side by side, with the notes, and small -/
def INB (n : Nat) (hx hm : HS) : Prop := INW hx hm ∧ BN hx n
