/-! THE OTHER READER: a stack instead of calls -/
def hv_cn : List hv_tok → List Int → List hv_tok × List Int
  | o, [] => (o, [])
  | o, a :: s => if a = 2 then hv_cn ((0, 2, 0) :: o) s else (o, a :: s)
def hv_cd (low : Int) : List hv_tok → List Int → List hv_tok × List Int
  | o, [] => (o, [])
  | o, a :: s => if a ≠ 100 ∧ low ≤ a then hv_cd low ((0, a.toNat, 0) :: o) s else (o, a :: s)
def hv_dp : List Int → Nat
  | [] => 0
  | a :: s => hv_dp s + (if a = 2 ∨ a = 100 then 1 else 0)
def hv_shut (T : Nat → Int32) (n p t : Nat) (run : Nat → Nat → List hv_tok → List Int → hv_R) (x : List hv_tok × List Int) : hv_R :=
  if p < n ∧ (T p).toInt = 41 then (match x.2 with
    | [] => .inl (1 + 8 * p)
    | _ :: s => run (p + 1) t (hv_cn x.1 s).1 (hv_cn x.1 s).2)
  else if x.2 = [] then .inr (p, t, x.1) else .inl (1 + 8 * p)
def hv_run (T : Nat → Int32) (n : Nat) : Nat → Bool → Nat → Nat → List hv_tok → List Int → hv_R
  | 0, _, _, _, _, _ => .inl 0
  | f + 1, true, p, t, o, s =>
    if hv_wd T n (hv_sk T n p) = 2 then (if hv_dp s = 8 then .inl (4 + 8 * hv_sk T n p) else hv_run T n f true (hv_sk T n p + 3) t o (2 :: s))
    else if hv_sk T n p < n ∧ (T (hv_sk T n p)).toInt = 40 then (if hv_dp s = 8 then .inl (4 + 8 * hv_sk T n p) else hv_run T n f true (hv_sk T n p + 1) t o (100 :: s))
    else hv_bd (hv_term T n (hv_sk T n p) t o) (fun q => hv_run T n f false q.1 q.2.1 (hv_cn q.2.2 s).1 (hv_cn q.2.2 s).2)
  | f + 1, false, p, t, o, s =>
    if hv_wd T n (hv_sk T n p) = 1 ∨ hv_wd T n (hv_sk T n p) = 0 then hv_run T n f true (hv_we T n (hv_sk T n p)) t (hv_cd (hv_wd T n (hv_sk T n p)) o s).1 (hv_wd T n (hv_sk T n p) :: (hv_cd (hv_wd T n (hv_sk T n p)) o s).2)
    else hv_shut T n (hv_sk T n p) t (hv_run T n f false) (hv_cd 0 o s)
section HVR
variable {T : Nat → Int32} {n : Nat}
theorem hv_run_1 {f p t : Nat} {o : List hv_tok} {s : List Int} : hv_run T n (f + 1) true p t o s =
    (if hv_wd T n (hv_sk T n p) = 2 then (if hv_dp s = 8 then .inl (4 + 8 * hv_sk T n p) else hv_run T n f true (hv_sk T n p + 3) t o (2 :: s))
    else if hv_sk T n p < n ∧ (T (hv_sk T n p)).toInt = 40 then (if hv_dp s = 8 then .inl (4 + 8 * hv_sk T n p) else hv_run T n f true (hv_sk T n p + 1) t o (100 :: s))
    else hv_bd (hv_term T n (hv_sk T n p) t o) (fun q => hv_run T n f false q.1 q.2.1 (hv_cn q.2.2 s).1 (hv_cn q.2.2 s).2)) := rfl
theorem hv_run_0 {f p t : Nat} {o : List hv_tok} {s : List Int} : hv_run T n (f + 1) false p t o s =
    (if hv_wd T n (hv_sk T n p) = 1 ∨ hv_wd T n (hv_sk T n p) = 0 then hv_run T n f true (hv_we T n (hv_sk T n p)) t (hv_cd (hv_wd T n (hv_sk T n p)) o s).1 (hv_wd T n (hv_sk T n p) :: (hv_cd (hv_wd T n (hv_sk T n p)) o s).2)
    else hv_shut T n (hv_sk T n p) t (hv_run T n f false) (hv_cd 0 o s)) := rfl
theorem hv_shut_c {p t : Nat} {r r' : Nat → Nat → List hv_tok → List Int → hv_R} {x : List hv_tok × List Int} (h : p < n → ∀ o s, r (p + 1) t o s = r' (p + 1) t o s) : hv_shut T n p t r x = hv_shut T n p t r' x := by
  unfold hv_shut
  by_cases e : p < n ∧ (T p).toInt = 41
  · rw [if_pos e, if_pos e]
    cases x.2 with
    | nil => rfl
    | cons a s => exact h e.1 _ _
  · rw [if_neg e, if_neg e]
theorem hv_run_f : ∀ (f f' : Nat) (b : Bool) (p t : Nat) (o : List hv_tok) (s : List Int), n + 1 < f + p → 0 < f → n + 1 < f' + p → 0 < f' → hv_run T n f b p t o s = hv_run T n f' b p t o s := by
  intro f
  induction f with
  | zero => intro f' b p t o s _ h; exfalso; omega
  | succ f ih =>
    intro f' b p t o s h1 h2 h3 h4
    obtain ⟨g, rfl⟩ : ∃ g, f' = g + 1 := ⟨f' - 1, by omega⟩
    have hs := hv_sk_ge (T := T) (n := n) (p := p)
    cases b with
    | true =>
      rw [hv_run_1, hv_run_1]
      by_cases e : hv_wd T n (hv_sk T n p) = 2
      · have hl := hv_wd_2 e
        rw [if_pos e, if_pos e]
        by_cases d : hv_dp s = 8
        · rw [if_pos d, if_pos d]
        · rw [if_neg d, if_neg d]
          exact ih _ _ _ _ _ _ (by omega) (by omega) (by omega) (by omega)
      · rw [if_neg e, if_neg e]
        by_cases c : hv_sk T n p < n ∧ (T (hv_sk T n p)).toInt = 40
        · rw [if_pos c, if_pos c]
          by_cases d : hv_dp s = 8
          · rw [if_pos d, if_pos d]
          · rw [if_neg d, if_neg d]
            exact ih _ _ _ _ _ _ (by omega) (by omega) (by omega) (by omega)
        · rw [if_neg c, if_neg c]
          cases hr : hv_term T n (hv_sk T n p) t o with
          | inl x => rfl
          | inr q =>
            obtain ⟨q1, q2, _⟩ := hv_term_b hr
            rw [hv_bd_r, hv_bd_r]
            exact ih _ _ _ _ _ _ (by omega) (by omega) (by omega) (by omega)
    | false =>
      rw [hv_run_0, hv_run_0]
      by_cases e : hv_wd T n (hv_sk T n p) = 1 ∨ hv_wd T n (hv_sk T n p) = 0
      · have hl : hv_sk T n p + 2 ≤ hv_we T n (hv_sk T n p) ∧ hv_we T n (hv_sk T n p) ≤ n := by
          rcases e with e | e
          · have := hv_wd_1 e; omega
          · have := hv_wd_0 e; omega
        rw [if_pos e, if_pos e]
        exact ih _ _ _ _ _ _ (by omega) (by omega) (by omega) (by omega)
      · rw [if_neg e, if_neg e]
        exact hv_shut_c (fun hp o s => ih _ _ _ _ _ _ (by omega) (by omega) (by omega) (by omega))
def hv_RN (T : Nat → Int32) (n : Nat) (b : Bool) (p t : Nat) (o : List hv_tok) (s : List Int) : hv_R := hv_run T n (n + 2) b p t o s
theorem hv_RN_1 {p t : Nat} {o : List hv_tok} {s : List Int} : hv_RN T n true p t o s =
    (if hv_wd T n (hv_sk T n p) = 2 then (if hv_dp s = 8 then .inl (4 + 8 * hv_sk T n p) else hv_RN T n true (hv_sk T n p + 3) t o (2 :: s))
    else if hv_sk T n p < n ∧ (T (hv_sk T n p)).toInt = 40 then (if hv_dp s = 8 then .inl (4 + 8 * hv_sk T n p) else hv_RN T n true (hv_sk T n p + 1) t o (100 :: s))
    else hv_bd (hv_term T n (hv_sk T n p) t o) (fun q => hv_RN T n false q.1 q.2.1 (hv_cn q.2.2 s).1 (hv_cn q.2.2 s).2)) := by
  show hv_run T n ((n + 1) + 1) true p t o s = _
  rw [hv_run_1]
  have hs := hv_sk_ge (T := T) (n := n) (p := p)
  by_cases e : hv_wd T n (hv_sk T n p) = 2
  · rw [if_pos e, if_pos e]
    by_cases d : hv_dp s = 8
    · rw [if_pos d, if_pos d]
    · rw [if_neg d, if_neg d]
      exact hv_run_f _ _ _ _ _ _ _ (by omega) (by omega) (by omega) (by omega)
  · rw [if_neg e, if_neg e]
    by_cases c : hv_sk T n p < n ∧ (T (hv_sk T n p)).toInt = 40
    · rw [if_pos c, if_pos c]
      by_cases d : hv_dp s = 8
      · rw [if_pos d, if_pos d]
      · rw [if_neg d, if_neg d]
        exact hv_run_f _ _ _ _ _ _ _ (by omega) (by omega) (by omega) (by omega)
    · rw [if_neg c, if_neg c]
      cases hr : hv_term T n (hv_sk T n p) t o with
      | inl x => rfl
      | inr q =>
        obtain ⟨q1, q2, _⟩ := hv_term_b hr
        rw [hv_bd_r, hv_bd_r]
        exact hv_run_f _ _ _ _ _ _ _ (by omega) (by omega) (by omega) (by omega)
theorem hv_RN_0 {p t : Nat} {o : List hv_tok} {s : List Int} : hv_RN T n false p t o s =
    (if hv_wd T n (hv_sk T n p) = 1 ∨ hv_wd T n (hv_sk T n p) = 0 then hv_RN T n true (hv_we T n (hv_sk T n p)) t (hv_cd (hv_wd T n (hv_sk T n p)) o s).1 (hv_wd T n (hv_sk T n p) :: (hv_cd (hv_wd T n (hv_sk T n p)) o s).2)
    else hv_shut T n (hv_sk T n p) t (hv_RN T n false) (hv_cd 0 o s)) := by
  show hv_run T n ((n + 1) + 1) false p t o s = _
  rw [hv_run_0]
  have hs := hv_sk_ge (T := T) (n := n) (p := p)
  by_cases e : hv_wd T n (hv_sk T n p) = 1 ∨ hv_wd T n (hv_sk T n p) = 0
  · have hl : hv_sk T n p + 2 ≤ hv_we T n (hv_sk T n p) ∧ hv_we T n (hv_sk T n p) ≤ n := by
      rcases e with e | e
      · have := hv_wd_1 e; omega
      · have := hv_wd_0 e; omega
    rw [if_pos e, if_pos e]
    exact hv_run_f _ _ _ _ _ _ _ (by omega) (by omega) (by omega) (by omega)
  · rw [if_neg e, if_neg e]
    exact hv_shut_c (fun hp o s => hv_run_f _ _ _ _ _ _ _ (by omega) (by omega) (by omega) (by omega))
/-- what waits stands on the stack -/
def hv_stk (a w : Bool) (B : List Int) : List Int := if a = true then 1 :: (if w = true then 0 :: B else B) else (if w = true then 0 :: B else B)
/-- a base: nothing, or what was opened -/
def hv_bs (B : List Int) : Prop := B = [] ∨ ∃ s, B = 100 :: s
theorem hv_cn_b {o : List hv_tok} {a w : Bool} {B : List Int} (hB : hv_bs B) : hv_cn o (hv_stk a w B) = (o, hv_stk a w B) := by
  rcases hB with rfl | ⟨s, rfl⟩ <;> cases a <;> cases w <;> rfl
theorem hv_cd_1 {o : List hv_tok} {a w : Bool} {B : List Int} (hB : hv_bs B) : hv_cd 1 o (hv_stk a w B) = (hv_j a 1 o, hv_stk false w B) := by
  rcases hB with rfl | ⟨s, rfl⟩ <;> cases a <;> cases w <;> rfl
theorem hv_cd_0 {o : List hv_tok} {a w : Bool} {B : List Int} (hB : hv_bs B) : hv_cd 0 o (hv_stk a w B) = (hv_j w 0 (hv_j a 1 o), B) := by
  rcases hB with rfl | ⟨s, rfl⟩ <;> cases a <;> cases w <;> rfl
theorem hv_dp_b {a w : Bool} {B : List Int} : hv_dp (hv_stk a w B) = hv_dp B := by
  cases a <;> cases w <;> rfl
def hv_go (T : Nat → Int32) (n : Nat) (s : List Int) (q : Nat × Nat × List hv_tok) : hv_R := hv_RN T n false q.1 q.2.1 (hv_cn q.2.2 s).1 (hv_cn q.2.2 s).2
def hv_fin (T : Nat → Int32) (n : Nat) (B : List Int) (q : Nat × Nat × List hv_tok) : hv_R := hv_shut T n q.1 q.2.1 (hv_RN T n false) (q.2.2, B)
theorem hv_B {D : Nat} (A : ∀ (p t : Nat) (o : List hv_tok) (s : List Int), hv_dp s + D = 8 → hv_RN T n true p t o s = hv_bd (hv_one T n D p t o) (hv_go T n s)) {B : List Int} (hB : hv_bs B) (hd : hv_dp B + D = 8) : ∀ (k : Nat) (a w : Bool) (p t : Nat) (o : List hv_tok), n ≤ p + k → hv_RN T n true p t o (hv_stk a w B) = hv_bd (hv_LE T n D a w p t o) (hv_fin T n B) := by
  intro k
  induction k with
  | zero =>
    intro a w p t o hk
    rw [A p t o _ (by rw [hv_dp_b]; exact hd), hv_LE_t]
    cases hr : hv_one T n D p t o with
    | inl x => rfl
    | inr r => have := hv_one_b _ _ _ _ _ hr; unfold hv_G at this; exfalso; omega
  | succ k ih =>
    intro a w p t o hk
    rw [A p t o _ (by rw [hv_dp_b]; exact hd), hv_LE_t]
    cases hr : hv_one T n D p t o with
    | inl x => rfl
    | inr r =>
      have hg := hv_one_b _ _ _ _ _ hr
      unfold hv_G at hg
      have hs := hv_sk_ge (T := T) (n := n) (p := r.1)
      rw [hv_bd_r, hv_bd_r]
      show hv_RN T n false r.1 r.2.1 (hv_cn r.2.2 (hv_stk a w B)).1 (hv_cn r.2.2 (hv_stk a w B)).2 = _
      rw [hv_cn_b hB, hv_RN_0]
      dsimp only
      by_cases e1 : hv_wd T n (hv_sk T n r.1) = 1
      · rw [if_pos (Or.inl e1), if_pos e1, e1, hv_cd_1 hB, (hv_wd_1 e1).1]
        exact ih true w _ _ _ (by omega)
      · by_cases e0 : hv_wd T n (hv_sk T n r.1) = 0
        · rw [if_pos (Or.inr e0), if_neg e1, if_pos e0, e0, hv_cd_0 hB, (hv_wd_0 e0).1]
          exact ih false true _ _ _ (by omega)
        · rw [if_neg (fun z => z.elim e1 e0), if_neg e1, if_neg e0, hv_cd_0 hB]
          rfl
theorem hv_A : ∀ (D p t : Nat) (o : List hv_tok) (s : List Int), hv_dp s + D = 8 → hv_RN T n true p t o s = hv_bd (hv_one T n D p t o) (hv_go T n s) := by
  intro D
  induction D with
  | zero =>
    intro p t o s hd
    rw [hv_RN_1]
    unfold hv_one
    by_cases e : hv_wd T n (hv_sk T n p) = 2
    · rw [if_pos e, if_pos e, if_pos (by omega)]; rfl
    · rw [if_neg e, if_neg e]
      by_cases c : hv_sk T n p < n ∧ (T (hv_sk T n p)).toInt = 40
      · rw [if_pos c, if_pos c, if_pos (by omega)]; rfl
      · rw [if_neg c, if_neg c]; rfl
  | succ D ih =>
    intro p t o s hd
    rw [hv_RN_1]
    unfold hv_one
    by_cases e : hv_wd T n (hv_sk T n p) = 2
    · rw [if_pos e, if_pos e, if_neg (by omega), ih _ _ _ (2 :: s) (by show hv_dp s + (if (2 : Int) = 2 ∨ (2 : Int) = 100 then 1 else 0) + D = 8; rw [if_pos (Or.inl rfl)]; omega)]
      cases hv_one T n D (hv_sk T n p + 3) t o with
      | inl x => rfl
      | inr r => rfl
    · rw [if_neg e, if_neg e]
      by_cases c : hv_sk T n p < n ∧ (T (hv_sk T n p)).toInt = 40
      · have hd2 : hv_dp (100 :: s) + D = 8 := by show hv_dp s + (if (100 : Int) = 2 ∨ (100 : Int) = 100 then 1 else 0) + D = 8; rw [if_pos (Or.inr rfl)]; omega
        have hb := hv_B (T := T) (n := n) ih (B := 100 :: s) (Or.inr ⟨s, rfl⟩) hd2 n false false (hv_sk T n p + 1) t o (by omega)
        rw [if_pos c, if_pos c, if_neg (by omega)]
        have hst : hv_stk false false (100 :: s) = 100 :: s := rfl
        rw [hst] at hb
        rw [hb]
        show hv_bd (hv_LE T n D false false (hv_sk T n p + 1) t o) (hv_fin T n (100 :: s)) = hv_bd (hv_bd (hv_LE T n D false false (hv_sk T n p + 1) t o) (hv_par T n)) (hv_go T n s)
        cases hr : hv_LE T n D false false (hv_sk T n p + 1) t o with
        | inl x => rfl
        | inr r =>
          have hg := hv_LE_b hr
          rw [hv_bd_r, hv_bd_r]
          unfold hv_fin hv_shut hv_par
          rw [hg.2.2.2.2.2.1]
          by_cases c2 : r.1 < n ∧ (T r.1).toInt = 41
          · rw [if_pos c2, if_pos c2]; rfl
          · rw [if_neg c2, if_neg c2, if_neg (by intro z; cases z)]; rfl
      · rw [if_neg c, if_neg c]; rfl
/-- both readers of what proves -/
theorem hv_top {p : Nat} : hv_RN T n true p 0 [] [] = hv_bd (hv_LE T n 8 false false p 0 []) (fun q => if q.1 < n ∧ (T q.1).toInt = 41 then .inl (1 + 8 * q.1) else .inr q) := by
  have hb := hv_B (T := T) (n := n) (hv_A 8) (B := []) (Or.inl rfl) rfl n false false p 0 [] (by omega)
  have hst : hv_stk false false [] = [] := rfl
  rw [hst] at hb
  rw [hb]
  cases hv_LE T n 8 false false p 0 [] with
  | inl x => rfl
  | inr r =>
    rw [hv_bd_r, hv_bd_r]
    unfold hv_fin hv_shut
    by_cases c2 : r.1 < n ∧ (T r.1).toInt = 41
    · rw [if_pos c2, if_pos c2]
    · rw [if_neg c2, if_neg c2, if_pos rfl]
end HVR
