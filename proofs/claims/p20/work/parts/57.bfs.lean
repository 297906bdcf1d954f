def FU (F : Nat → Bool) (b : Nat) (x : Nat) : Bool := if x = b then true else F x
def NU (f : Nat → Nat) (b v : Nat) (x : Nat) : Nat := if x = b then v else f x
theorem FU_s {F : Nat → Bool} {b : Nat} : FU F b b = true := if_pos rfl
theorem FU_o {F : Nat → Bool} {b x : Nat} (h : x ≠ b) : FU F b x = F x := if_neg h
theorem NU_s {f : Nat → Nat} {b v : Nat} : NU f b v b = v := if_pos rfl
theorem NU_o {f : Nat → Nat} {b v x : Nat} (h : x ≠ b) : NU f b v x = f x := if_neg h
theorem FU_t {F : Nat → Bool} {b x : Nat} (h : F x = true) : FU F b x = true := by
  unfold FU
  split
  · rfl
  · exact h
def cF (F : Nat → Bool) (x : Nat) : Int32 := if F x = true then 0 else -4
theorem cF_u (F : Nat → Bool) (b : Nat) : cF (FU F b) = upd (cF F) b 0 := by
  funext x
  show (if FU F b x = true then (0 : Int32) else -4) = if x = b then 0 else cF F x
  by_cases q : x = b
  · rw [if_pos q, q, FU_s, if_pos rfl]
  · rw [if_neg q, FU_o q]
    rfl
/-- a search on its way: r what is left, hp the ends, f from whom, q the queue, F who is found, L how far, ps where in the queue -/
def BF (r : Nat → Nat → Int) (hp : Nat → Bool) (f q : Nat → Nat) (F : Nat → Bool) (L ps : Nat → Nat) (wq nx : Nat) : Prop :=
  CH r 13 f F L ∧ (∀ x, x < 14 → F x = true → ps x < wq ∧ q (ps x) = x) ∧ (∀ j, j < wq → q j < 14 ∧ F (q j) = true ∧ ps (q j) = j) ∧ (∀ x y, x < 14 → y < 14 → F x = true → F y = true → ps x ≤ ps y → L x ≤ L y) ∧ (∀ x y, x < 14 → y < 14 → F x = true → F y = true → ps x = nx → L y ≤ L x + 1) ∧ (∀ x, x < 14 → F x = true → ps x < nx → ∀ y, y < 14 → 0 < r x y → F y = true ∧ L y ≤ L x + 1) ∧ (∀ x, x < 14 → F x = true → hp x = false) ∧ cby (cF F) 14 = wq ∧ ∀ x, x < 14 → F x = true → L x ≤ ps x
theorem BF.st {r : Nat → Nat → Int} {hp : Nat → Bool} {f q : Nat → Nat} (h13 : hp 13 = false) (hq : q 0 = 13) : BF r hp f q (fun x => decide (x = 13)) (fun _ => 0) (fun _ => 0) 1 0 := by
  have e : ∀ x, decide (x = 13) = true → x = 13 := fun x h => of_decide_eq_true h
  refine ⟨⟨rfl, rfl, fun x _ h => Or.inl (e x h)⟩, fun x _ h => ⟨Nat.one_pos, by rw [e x h]; exact hq⟩, fun j hj => ?_, fun _ _ _ _ _ _ _ => Nat.le_refl _, fun _ _ _ _ _ _ _ => Nat.zero_le _, fun _ _ _ h => absurd h (Nat.not_lt_zero _), fun x _ h => by rw [e x h]; exact h13, by decide, fun _ _ _ => Nat.le_refl _⟩
  obtain rfl : j = 0 := by omega
  rw [hq]
  exact ⟨by decide, rfl, rfl⟩
theorem BF.at {r : Nat → Nat → Int} {hp : Nat → Bool} {f q : Nat → Nat} {F : Nat → Bool} {L ps : Nat → Nat} {wq nx : Nat} (s : BF r hp f q F L ps wq nx) (h : nx < wq) : q nx < 14 ∧ F (q nx) = true ∧ ps (q nx) = nx := s.2.2.1 nx h
theorem BF.le {r : Nat → Nat → Int} {hp : Nat → Bool} {f q : Nat → Nat} {F : Nat → Bool} {L ps : Nat → Nat} {wq nx : Nat} (s : BF r hp f q F L ps wq nx) : wq ≤ 14 := by
  rw [← s.2.2.2.2.2.2.2.1]
  exact cby_le _ _
theorem BF.full {r : Nat → Nat → Int} {hp : Nat → Bool} {f q : Nat → Nat} {F : Nat → Bool} {L ps : Nat → Nat} {wq nx : Nat} (s : BF r hp f q F L ps wq nx) (h : 14 ≤ wq) (x : Nat) (hx : x < 14) : F x = true := by
  cases z : F x
  · have e : cF F x = -4 := by
      unfold cF
      rw [z]
      rfl
    have := cby_lt e 14 hx
    rw [s.2.2.2.2.2.2.2.1] at this
    omega
  · rfl
theorem BF.nxt {r : Nat → Nat → Int} {hp : Nat → Bool} {f q : Nat → Nat} {F : Nat → Bool} {L ps : Nat → Nat} {wq nx : Nat} (s : BF r hp f q F L ps wq nx) (h : nx < wq) (hc : ∀ y, y < 14 → 0 < r (q nx) y → F y = true) : BF r hp f q F L ps wq (nx + 1) := by
  obtain ⟨a1, a2, a3⟩ := s.at h
  obtain ⟨b1, b2, b3, b4, b5, b6, b7, b8, b9⟩ := s
  refine ⟨b1, b2, b3, b4, fun x y hx hy fx fy px => ?_, fun x hx fx px y hy hr => ?_, b7, b8, b9⟩
  · have h1 := b5 (q nx) y a1 hy a2 fy a3
    have h2 := b4 (q nx) x a1 hx a2 fx (by omega)
    omega
  · by_cases z : ps x = nx
    · have e : x = q nx := by
        rw [← z]
        exact (b2 x hx fx).2.symm
      rw [e] at hr ⊢
      have fy := hc y hy hr
      exact ⟨fy, b5 (q nx) y a1 hy a2 fy a3⟩
    · exact b6 x hx fx (by omega) y hy hr
theorem CH.add {r : Nat → Nat → Int} {f : Nat → Nat} {F : Nat → Bool} {L : Nat → Nat} {a b : Nat} (s : CH r 13 f F L) (ha : a < 14) (fa : F a = true) (fb : F b = false) (hr : 0 < r a b) {L' : Nat → Nat} (e1 : ∀ x, F x = true → L' x = L x) (e2 : L' b = L a + 1) : CH r 13 (NU f b a) (FU F b) L' := by
  obtain ⟨c1, c2, c3⟩ := s
  have n13 : b ≠ 13 := fun z => by rw [z, c2] at fb; cases fb
  refine ⟨by rw [e1 13 c2]; exact c1, FU_t c2, fun x hx fx => ?_⟩
  by_cases z : x = b
  · subst z
    right
    rw [NU_s]
    exact ⟨n13, ha, FU_t fa, by rw [e2, e1 a fa], hr⟩
  · rw [FU_o z] at fx
    rcases c3 x hx fx with y | ⟨y1, y2, y3, y4, y5⟩
    · exact Or.inl y
    · right
      rw [NU_o z]
      exact ⟨y1, y2, FU_t y3, by rw [e1 x fx, e1 _ y3]; exact y4, y5⟩
theorem BF.add {r : Nat → Nat → Int} {hp : Nat → Bool} {f q : Nat → Nat} {F : Nat → Bool} {L ps : Nat → Nat} {wq nx b : Nat} (s : BF r hp f q F L ps wq nx) (h : nx < wq) (hb : b < 14) (fb : F b = false) (hr : 0 < r (q nx) b) (hh : hp b = false) : BF r hp (NU f b (q nx)) (NU q wq b) (FU F b) (NU L b (L (q nx) + 1)) (NU ps b wq) (wq + 1) nx := by
  obtain ⟨a1, a2, a3⟩ := s.at h
  obtain ⟨b1, b2, b3, b4, b5, b6, b7, b8, b9⟩ := s
  have ne : ∀ x, F x = true → x ≠ b := fun x fx z => by rw [z, fb] at fx; cases fx
  have fo : ∀ x, x ≠ b → FU F b x = true → F x = true := fun x z fx => by rw [FU_o z] at fx; exact fx
  have hL : ∀ x, F x = true → NU L b (L (q nx) + 1) x = L x := fun x fx => NU_o (ne x fx)
  have hP : ∀ x, F x = true → NU ps b wq x = ps x := fun x fx => NU_o (ne x fx)
  refine ⟨b1.add a1 a2 fb hr hL NU_s, fun x hx fx => ?_, fun j hj => ?_, fun x y hx hy fx fy pp => ?_, fun x y hx hy fx fy px => ?_, fun x hx fx px y hy hry => ?_, fun x hx fx => ?_, ?_, fun x hx fx => ?_⟩
  · by_cases z : x = b
    · subst z
      rw [NU_s, NU_s]
      exact ⟨Nat.lt_succ_self _, rfl⟩
    · have fx2 := fo x z fx
      rw [hP x fx2]
      have := b2 x hx fx2
      rw [NU_o (by omega)]
      exact ⟨by omega, this.2⟩
  · by_cases z : j = wq
    · subst z
      rw [NU_s, NU_s]
      exact ⟨hb, FU_s, rfl⟩
    · obtain ⟨c1, c2, c3⟩ := b3 j (by omega)
      rw [NU_o z, hP _ c2]
      exact ⟨c1, FU_t c2, c3⟩
  · by_cases zy : y = b
    · subst zy
      rw [NU_s]
      by_cases zx : x = y
      · subst zx
        rw [NU_s]
        exact Nat.le_refl _
      · have fx2 := fo x zx fx
        rw [hL x fx2]
        exact b5 (q nx) x a1 hx a2 fx2 a3
    · have fy2 := fo y zy fy
      rw [hL y fy2]
      rw [hP y fy2] at pp
      by_cases zx : x = b
      · subst zx
        rw [NU_s] at pp
        have := b2 y hy fy2
        omega
      · have fx2 := fo x zx fx
        rw [hL x fx2]
        rw [hP x fx2] at pp
        exact b4 x y hx hy fx2 fy2 pp
  · by_cases zx : x = b
    · subst zx
      rw [NU_s] at px
      omega
    · have fx2 := fo x zx fx
      rw [hP x fx2] at px
      rw [hL x fx2]
      have e : x = q nx := by
        rw [← px]
        exact (b2 x hx fx2).2.symm
      by_cases zy : y = b
      · subst zy
        rw [NU_s, e]
        exact Nat.le_refl _
      · have fy2 := fo y zy fy
        rw [hL y fy2]
        exact b5 x y hx hy fx2 fy2 px
  · by_cases zx : x = b
    · subst zx
      rw [NU_s] at px
      omega
    · have fx2 := fo x zx fx
      rw [hP x fx2] at px
      obtain ⟨c1, c2⟩ := b6 x hx fx2 px y hy hry
      rw [hL x fx2, hL y c1]
      exact ⟨FU_t c1, c2⟩
  · by_cases zx : x = b
    · rw [zx]
      exact hh
    · exact b7 x hx (fo x zx fx)
  · have e : cF F b = -4 := by
      unfold cF
      rw [fb]
      rfl
    rw [cF_u, cby_s e (by decide) 14 hb, b8]
  · by_cases zx : x = b
    · subst zx
      rw [NU_s, NU_s]
      have := b9 (q nx) a1 a2
      omega
    · have fx2 := fo x zx fx
      rw [hL x fx2, hP x fx2]
      exact b9 x hx fx2
/-- an end is met: the labels then -/
theorem BF.found {r : Nat → Nat → Int} {hp : Nat → Bool} {f q : Nat → Nat} {F : Nat → Bool} {L ps : Nat → Nat} {wq nx b : Nat} (s : BF r hp f q F L ps wq nx) (h : nx < wq) (hb : b < 14) (fb : F b = false) (hr : 0 < r (q nx) b) : ∃ F' L', CH r 13 (NU f b (q nx)) F' L' ∧ (∀ x y, x < 14 → y < 14 → 0 < r x y → L' y ≤ L' x + 1) ∧ F' b = true ∧ (∀ x, x < 14 → hp x = true → L' b ≤ L' x) ∧ L' b ≤ 14 := by
  have hw := s.le
  obtain ⟨a1, a2, a3⟩ := s.at h
  obtain ⟨b1, b2, b3, b4, b5, b6, b7, b8, b9⟩ := s
  have e1 : ∀ x, F x = true → (if F x = true then L x else L (q nx) + 1) = L x := fun x fx => if_pos fx
  have e2 : ∀ x, F x = false → (if F x = true then L x else L (q nx) + 1) = L (q nx) + 1 := fun x fx => if_neg (fun z => by rw [fx] at z; cases z)
  have top : ∀ x, x < 14 → (if F x = true then L x else L (q nx) + 1) ≤ L (q nx) + 1 := by
    intro x hx
    cases z : F x
    · exact Nat.le_refl _
    · exact b5 (q nx) x a1 hx a2 z a3
  refine ⟨FU F b, fun x => if F x = true then L x else L (q nx) + 1, b1.add a1 a2 fb hr e1 (e2 b fb), fun x y hx hy hxy => ?_, FU_s, fun x hx hh => ?_, ?_⟩
  · show (if F y = true then L y else L (q nx) + 1) ≤ (if F x = true then L x else L (q nx) + 1) + 1
    have ty := top y hy
    cases zx : F x
    · rw [if_neg (by decide : ¬ false = true)]
      omega
    · rw [if_pos rfl]
      rcases Nat.lt_or_ge (ps x) nx with p | p
      · obtain ⟨c1, c2⟩ := b6 x hx zx p y hy hxy
        rw [e1 y c1]
        exact c2
      · have := b4 (q nx) x a1 hx a2 zx (by omega)
        omega
  · show (if F b = true then L b else L (q nx) + 1) ≤ (if F x = true then L x else L (q nx) + 1)
    cases zx : F x
    · rw [if_neg (by decide : ¬ false = true), e2 b fb]
      exact Nat.le_refl _
    · rw [b7 x hx zx] at hh
      cases hh
  · show (if F b = true then L b else L (q nx) + 1) ≤ 14
    rw [e2 b fb]
    have := b9 (q nx) a1 a2
    omega
/-- none is met: what is found is closed -/
theorem BF.done {r : Nat → Nat → Int} {hp : Nat → Bool} {f q : Nat → Nat} {F : Nat → Bool} {L ps : Nat → Nat} {wq nx : Nat} (s : BF r hp f q F L ps wq nx) (h : wq ≤ nx) : RC r 13 F L ∧ (∀ x y, x < 14 → y < 14 → F x = true → F y = false → ¬ 0 < r x y) ∧ ∀ x, x < 14 → F x = true → hp x = false := by
  obtain ⟨b1, b2, b3, b4, b5, b6, b7, b8, b9⟩ := s
  refine ⟨⟨b1.2.1, fun x hx fx => ?_⟩, fun x y hx hy fx fy hr => ?_, b7⟩
  · rcases b1.2.2 x hx fx with z | ⟨z1, z2, z3, z4, z5⟩
    · exact Or.inl z
    · exact Or.inr ⟨f x, z2, z3, by omega, z5⟩
  · have := (b6 x hx fx (by have := b2 x hx fx; omega) y hy hr).1
    rw [fy] at this
    cases this
