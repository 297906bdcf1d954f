-- words of the walker: what a cell is, what the cells hold, a method, its facts
abbrev SP : Type := Nat × Nat × List Nat
abbrev HS : Type := (Nat → Nat → Int32) × (Nat → Nat → Int64)
abbrev Geo : Type := va_G × (Nat → Nat) × ClassId × ClassId × ClassId
def aw_tb : List Cond := lw_tbl.filter goodWord
abbrev MI : Type := MethodName × ByteArray × Nat × Option FieldType
theorem aw_in {w : Cond} (i : Nat) (h : lw_tbl[i]? = some w) (hg : goodWord w = true) : w ∈ aw_tb := List.mem_filter.mpr ⟨List.mem_of_getElem? h, hg⟩
abbrev WT : Type := Launch × Geo × List SP × (Nat → Nat)
def FL (own : String) (index ci j : Nat) : Prop := ∃ (C : String) (T : u_T) (N : Nat), vwCl[ci]? = some (C, T, N) ∧ j < N ∧ (Cond.fieldLink own index C (T j).2.1 (T j).2.2.1) ∈ aw_tb ∧ (∀ w ∈ u_ws C T N, w ∈ aw_tb) ∧ (T j).1 = C
def FP_ (ci j : Nat) (ty : FieldType) : Prop := ∃ (C : String) (T : u_T) (N : Nat) (tys : Nat → FieldType), vwCl[ci]? = some (C, T, N) ∧ (∀ k, k < N → parseFieldDescriptor (T k).2.2.1 = some (tys k)) ∧ (∀ a, a < N → ∀ b, b < N → a ≠ b → (T a).2.1 ≠ (T b).2.1) ∧ (T j).2.2.2 = false ∧ parseFieldDescriptor (T j).2.2.1 = some ty
def MF (mi : MI) (n : Nat) : Prop := Cond.code mi.1 mi.2.1 mi.2.2.1 mi.2.2.2 ∈ aw_tb ∧ Cond.initialized mi.1.cls ∈ aw_tb ∧ (mi.1.cls ≠ "java/lang/invoke/MethodHandle" ∧ mi.1.cls ≠ "java/lang/invoke/VarHandle" ∧ (parseMethodDescriptor mi.1.desc).map (fun d => d.parameters.length) = some n) ∧ mi.2.2.1 ≤ 17
def MFs (mi : MI) (n : Nat) : Prop := MF mi n ∧ Cond.static mi.1 ∈ aw_tb
def MFv (mi : MI) (n : Nat) : Prop := MF mi n ∧ Cond.instanceMethod mi.1 ∈ aw_tb ∧ Cond.selects mi.1.cls mi.1 mi.1 ∈ aw_tb
def ML (own : String) (index : Nat) (mi : MI) : Prop := Cond.methodLink own index mi.1 ∈ aw_tb
def MLN (own : String) (index : Nat) (mi : MI) : Prop := Cond.methodLinkNest own index mi.1 "ManyNames" ∈ lw_tbl
def CLS (ci : Nat) (C : String) : Prop := ∃ q : vw_C, vwCl[ci]? = some q ∧ q.1 = C
def dkT (l : List Cond) : List (Nat × Cond) → Bool
  | [] => true
  | p :: ps => match l.drop p.1 with
    | [] => false
    | x :: xs => decide (x = p.2) && dkT xs ps
theorem dkT_at : ∀ (ps : List (Nat × Cond)) (l : List Cond), dkT l ps = true → ∀ (k : Nat) (p : Nat × Cond), ps[k]? = some p → p.2 ∈ l := by
  intro ps
  induction ps with
  | nil => intro l _ k p hk; cases hk
  | cons q ps ih =>
    intro l h k p hk
    unfold dkT at h
    split at h
    · cases h
    · rename_i x xs hd
      rw [Bool.and_eq_true] at h
      have hx : ∀ y, y ∈ x :: xs → y ∈ l := fun y hy => List.mem_of_mem_drop (hd ▸ hy)
      cases k with
      | zero =>
        have e : q = p := Option.some.inj hk
        subst e
        exact hx _ (by rw [← of_decide_eq_true h.1]; exact List.mem_cons_self)
      | succ k => exact hx _ (List.mem_cons_of_mem _ (ih xs h.2 k p hk))
theorem aw_me {w : Cond} (h : w ∈ lw_tbl) (hg : goodWord w = true) : w ∈ aw_tb := List.mem_filter.mpr ⟨h, hg⟩
