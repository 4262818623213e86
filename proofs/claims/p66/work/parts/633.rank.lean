/-! THE CLASS'S RANK -/
theorem oI_lt {o : Option Nat} {n : Nat} (hn : n ≤ 2 ^ 30) (h : ∀ j, o = some j → j < n) : (oI o = -1 ↔ o = none) := by
  cases o with
  | none => exact ⟨fun _ => rfl, fun _ => rfl⟩
  | some j =>
    have := h j rfl
    exact ⟨fun q => absurd q (nI_neg1 (by omega)), fun q => by cases q⟩
theorem longest_b {Y : Mem} {g n : Nat} {x : Int32} {f : Nat → Bool} {p : Nat → Nat} (hr2 : rg Y g < 2) (hcnt : Y 4 (2 * rg Y g + 1) 0 2 = nI n) (h14 : n ≤ 14) (hx : ∀ k, k < n → bt x k = f k) (hp : ∀ k, k < n → f k = true → Y 1 g 1 k = nI (p k)) (hlt : ∀ k, p k < 2 ^ 30) :
    ∀ i, i ≤ n → ∀ fu, n - i < fu → X3_longestOf_b4 Y g x fu (nI i) (oI (best f p i)) = some (oI (best f p n)) := by
  refine upl ?_ ?_
  · intro fu fu_h
    obtain ⟨fu, rfl⟩ := fuel_s fu_h
    unfold X3_longestOf_b4
    rw [gd2 hr2, gd2 hr2, hcnt, if_pos (Int32.le_refl _)]
  · intro i hi ih fu fu_h
    obtain ⟨fu, rfl⟩ := fuel_s fu_h
    unfold X3_longestOf_b4
    rw [gd2 hr2, gd2 hr2, hcnt, if_neg (by rw [nI_leI (by omega) (by omega)]; omega), contains_ok Y _ (by omega), bd1_e, bI_ne, hx i hi]
    have hj : ∀ z, X3_longestOf_b48 Y g x (X3_longestOf_b4 Y g x fu) (nI i) z = X3_longestOf_b4 Y g x fu (nI (i + 1)) z := by
      intro z
      unfold X3_longestOf_b48
      rw [litI, nI_add]
    have hj2 : X3_longestOf_b46 Y g x (X3_longestOf_b4 Y g x fu) (nI i) = X3_longestOf_b4 Y g x fu (nI (i + 1)) (nI i) := by
      unfold X3_longestOf_b46
      rw [hj]
    have ih2 := ih fu (by omega)
    rw [best_s] at ih2
    cases c : f i
    · rw [if_neg (by decide), hj]
      rw [c, if_neg (by decide)] at ih2
      exact ih2
    · rw [if_pos rfl]
      rw [c, if_pos rfl] at ih2
      have hb := fun j (h : best f p i = some j) => (best_lt h).1
      cases hbi : best f p i with
      | none =>
        rw [hbi] at ih2
        show (if (-1 : Int32) = -1 then _ else _) = _
        rw [if_pos rfl, hj2]
        exact ih2
      | some j =>
        rw [hbi] at ih2
        have hjl := best_lt hbi
        show (if nI j = -1 then _ else gd (inb (nI i) 14) (gd (inb (nI j) 14) _)) = _
        have oj : oI (some j) = nI j := rfl
        rw [oj, if_neg (nI_neg1 (by omega)), gdi (show i < 14 by omega), gdi (show j < 14 by omega), ix_n (by omega), ix_n (by omega), hp i hi c, hp j (by omega) hjl.2]
        have ih3 : X3_longestOf_b4 Y g x fu (nI (i + 1)) (oI (if p j < p i then some i else some j)) = some (oI (best f p n)) := ih2
        have l1 := hlt i
        have l2 := hlt j
        by_cases q : p j < p i
        · rw [if_neg (by rw [nI_leI (by omega) (by omega)]; omega), hj2]
          rw [if_pos q] at ih3
          exact ih3
        · rw [if_pos (by rw [nI_leI (by omega) (by omega)]; omega), hj]
          rw [if_neg q] at ih3
          exact ih3
theorem longest_ok {Y : Mem} {g n : Nat} {x : Int32} {f : Nat → Bool} {p : Nat → Nat} (hr2 : rg Y g < 2) (hcnt : Y 4 (2 * rg Y g + 1) 0 2 = nI n) (h14 : n ≤ 14) (hx : ∀ k, k < n → bt x k = f k) (hp : ∀ k, k < n → f k = true → Y 1 g 1 k = nI (p k)) (hlt : ∀ k, p k < 2 ^ 30) : X3_longestOf Y g x = some (oI (best f p n)) := by
  unfold X3_longestOf
  exact longest_b hr2 hcnt h14 hx hp hlt 0 (Nat.zero_le _) FU (by have := FU_big; omega)
def insr (p : Nat → Nat) (s : Nat) : List Nat → List Nat
  | [] => [s]
  | x :: xs => if p x < p s then x :: insr p s xs else s :: x :: xs
/-- an array holds a list, its head last -/
def Rep (q : Nat → Int32) : List Nat → Prop
  | [] => True
  | x :: xs => q xs.length = nI x ∧ Rep q xs
theorem Rep_congr {q q' : Nat → Int32} : ∀ {l : List Nat}, (∀ j, j < l.length → q' j = q j) → Rep q l → Rep q' l := by
  intro l
  induction l with
  | nil => intro _ _; trivial
  | cons x xs ih =>
    intro h hr
    exact ⟨by rw [h xs.length (Nat.lt_succ_self _)]; exact hr.1, ih (fun j hj => h j (Nat.lt_succ_of_lt hj)) hr.2⟩
theorem insr_len (p : Nat → Nat) (s : Nat) : ∀ l : List Nat, (insr p s l).length = l.length + 1 := by
  intro l
  induction l with
  | nil => rfl
  | cons x xs ih =>
    unfold insr
    split
    · show (insr p s xs).length + 1 = _; rw [ih]; rfl
    · rfl
theorem insr_mem {p : Nat → Nat} {s y : Nat} : ∀ {l : List Nat}, y ∈ insr p s l ↔ y = s ∨ y ∈ l := by
  intro l
  induction l with
  | nil => unfold insr; simp
  | cons x xs ih =>
    unfold insr
    split
    · rw [List.mem_cons, ih, List.mem_cons]
      constructor
      · rintro (h | h | h)
        · exact Or.inr (Or.inl h)
        · exact Or.inl h
        · exact Or.inr (Or.inr h)
      · rintro (h | h | h)
        · exact Or.inr (Or.inl h)
        · exact Or.inl h
        · exact Or.inr (Or.inr h)
    · rw [List.mem_cons, List.mem_cons]
/-- the class's inner loop of the insertion -/
theorem ins_b86 {g s : Nat} {p : Nat → Nat} {k70 : Mem → Int32 → Option Mem} (hs : s < 14) (hlt : ∀ k, p k < 2 ^ 30) : ∀ (xs : List Nat) (Y : Mem) (q : Nat → Int32) (fu : Nat), xs.length ≤ 13 → xs.length < fu → Rep q xs → (∀ x ∈ xs, x < 14 ∧ Y 1 g 1 x = nI (p x)) → Y 1 g 1 s = nI (p s) →
    ∃ q', X3_rank_b86 g k70 fu (upR Y 1 g 2 q) (nI xs.length) (nI s) = k70 (upR Y 1 g 2 q') (nI (s + 1)) ∧ Rep q' (insr p s xs) ∧ ∀ j, xs.length < j → q' j = q j := by
  intro xs
  induction xs with
  | nil =>
    intro Y q fu hl fu_h hR hm hps
    obtain ⟨fu, rfl⟩ := fuel_s fu_h
    unfold X3_rank_b86 X3_rank_b132
    have e0 : nI ([] : List Nat).length = nI 0 := rfl
    rw [e0, if_pos (by decide), gdi (show 0 < 14 by omega), ix_n (by omega), lt_e, litI, nI_add, up_upR]
    exact ⟨upd q 0 (nI s), rfl, ⟨pk_us, trivial⟩, fun j hj => pk_un (by have : ([] : List Nat).length = 0 := rfl
                                                                        omega)⟩
  | cons x xs ih =>
    intro Y q fu hl fu_h hR hm hps
    obtain ⟨fu, rfl⟩ := fuel_s fu_h
    have hll : (x :: xs).length = xs.length + 1 := rfl
    rw [hll] at hl fu_h
    unfold X3_rank_b86
    have ep : (upR Y 1 g 2 q) 1 g 1 = Y 1 g 1 := upR_o (by omega)
    have eq2 : (upR Y 1 g 2 q) 1 g 2 = q := upR_at _ _ _ _ _
    have hx := hm x (List.mem_cons_self)
    rw [hll, if_neg (nI_nle (by omega) (by omega))]
    simp only [litI]
    rw [pk_sub (show 1 ≤ xs.length + 1 by omega), Nat.add_sub_cancel, gdi (show xs.length < 14 by omega), ix_n (by omega), eq2, hR.1, gdi hx.1, gdi hs, ix_n (by omega), ix_n (by have := hx.1; omega), ep, hps, hx.2]
    have l1 := hlt x
    have l2 := hlt s
    unfold insr
    by_cases c : p x < p s
    · rw [if_neg (by rw [nI_leI (by omega) (by omega)]; omega), if_pos c, gdi (show xs.length + 1 < 14 by omega), ix_n (by omega), lt_e, up_upR]
      have e1 : nI (xs.length + 1) + -nI 1 = nI xs.length := pk_m1 _
      rw [e1]
      obtain ⟨q', h1, h2, h3⟩ := ih Y (upd q (xs.length + 1) (nI x)) fu (by omega) (by omega) (Rep_congr (fun j hj => pk_un (by omega)) hR.2) (fun y hy => hm y (List.mem_cons_of_mem _ hy)) hps
      refine ⟨q', h1, ⟨?_, h2⟩, fun j hj => ?_⟩
      · rw [insr_len, h3 _ (Nat.lt_succ_self _), pk_us]
      · rw [h3 j (by omega), pk_un (by omega)]
    · rw [if_pos (by rw [nI_leI (by omega) (by omega)]; omega), if_neg c]
      unfold X3_rank_b132
      rw [gdi (show xs.length + 1 < 14 by omega), ix_n (by omega), lt_e, litI, nI_add, up_upR]
      refine ⟨upd q (xs.length + 1) (nI s), rfl, ⟨pk_us, ?_⟩, fun j hj => pk_un (by omega)⟩
      exact Rep_congr (l := x :: xs) (fun j hj => pk_un (by have : j < xs.length + 1 := hj
                                                            omega)) hR
def ordR (p : Nat → Nat) : Nat → List Nat
  | 0 => []
  | i + 1 => insr p i (ordR p i)
theorem ordR_len (p : Nat → Nat) : ∀ i, (ordR p i).length = i := by
  intro i
  induction i with
  | zero => rfl
  | succ i ih => unfold ordR; rw [insr_len, ih]
theorem ordR_mem {p : Nat → Nat} : ∀ {i x : Nat}, x ∈ ordR p i ↔ x < i := by
  intro i
  induction i with
  | zero => intro x; unfold ordR; simp
  | succ i ih =>
    intro x
    unfold ordR
    rw [insr_mem, ih]
    omega
/-- the class's loop of the insertion -/
theorem ins_b70 {g n : Nat} {p : Nat → Nat} (Y : Mem) (hr2 : rg Y g < 2) (hcnt : Y 4 (2 * rg Y g + 1) 0 2 = nI n) (h14 : n ≤ 14) (hlt : ∀ k, p k < 2 ^ 30) (hp : ∀ k, k < n → Y 1 g 1 k = nI (p k)) : ∀ i, i ≤ n → ∀ f q, n - i < f → Rep q (ordR p i) → ∃ q', X3_rank_b70 g f (upR Y 1 g 2 q) (nI i) = some (upR Y 1 g 2 q') ∧ Rep q' (ordR p n) := by
  have e0 : ∀ q, (upR Y 1 g 2 q) 1 g 0 = Y 1 g 0 := fun q => upR_o (by omega)
  have e4 : ∀ q, (upR Y 1 g 2 q) 4 = Y 4 := fun q => by funext g' o'; exact upR_o (by omega)
  have hr3 : ∀ q, rg (upR Y 1 g 2 q) g < 2 := fun q => by unfold rg; rw [e0]; exact hr2
  have hcn : ∀ q, (upR Y 1 g 2 q) 4 (2 * rg (upR Y 1 g 2 q) g + 1) 0 2 = nI n := fun q => by unfold rg; rw [e0, e4]; exact hcnt
  refine upl ?_ ?_
  · intro f q f_h hq
    obtain ⟨f, rfl⟩ := fuel_s f_h
    unfold X3_rank_b70
    rw [gd2 (hr3 q), gd2 (hr3 q), hcn, if_pos (Int32.le_refl _)]
    exact ⟨q, rfl, hq⟩
  · intro i hi ih f q f_h hq
    obtain ⟨f, rfl⟩ := fuel_s f_h
    unfold X3_rank_b70
    rw [gd2 (hr3 q), gd2 (hr3 q), hcn, if_neg (by rw [nI_leI (by omega) (by omega)]; omega)]
    have hl := ordR_len p i
    obtain ⟨q', h1, h2, -⟩ := ins_b86 (g := g) (s := i) (p := p) (k70 := X3_rank_b70 g f) (by omega) hlt (ordR p i) Y q FU (by omega) (by have := FU_big; omega) hq (fun x hx => by have := ordR_mem.mp hx; exact ⟨by omega, hp x (by omega)⟩) (hp i hi)
    rw [hl] at h1
    rw [h1]
    exact ih f q' (by omega) h2
theorem rank_b13 {g : Nat} {m : Nat → Int32} (Y0 : Mem) (W : WF m) (hM : MI m) (hR : RR Y0 (rg Y0 g) m) (hdur : ∀ s, s < nS m → Y0 2 g 1 s = fld m s 7) : ∀ d, d ≤ nS m → ∀ f (pp : Nat → Int32), nS m - d < f → (∀ k, nS m - d ≤ k → k < nS m → pp k = nI (pa m d k)) →
    ∃ p' q', X3_rank_b13 g f (upR Y0 1 g 1 pp) (nI (nS m - d) - nI 1) = some (upR (upR Y0 1 g 1 p') 1 g 2 q') ∧ (∀ k, k < nS m → p' k = nI (pth m k)) ∧ Rep q' (ordR (pth m) (nS m)) := by
  have h14 := W.2.1
  have e0 : ∀ q, (upR Y0 1 g 1 q) 1 g 0 = Y0 1 g 0 := fun q => upR_o (by omega)
  have ek : ∀ q k, ¬ k = 1 → (upR Y0 1 g 1 q) k = Y0 k := fun q k hk => by funext g' o'; exact upR_o (by omega)
  have hrr : ∀ q, rg (upR Y0 1 g 1 q) g = rg Y0 g := fun q => by unfold rg; rw [e0]
  have hr3 : ∀ q, rg (upR Y0 1 g 1 q) g < 2 := fun q => by rw [hrr]; exact hR.1.1
  have hcn : ∀ q, (upR Y0 1 g 1 q) 4 (2 * rg (upR Y0 1 g 1 q) g + 1) 0 2 = nI (nS m) := fun q => by rw [hrr, ek q 4 (by omega)]; exact hR.1.2.1
  refine upl ?_ ?_
  · intro f pp f_h hp
    obtain ⟨f, rfl⟩ := fuel_s f_h
    unfold X3_rank_b13
    rw [Nat.sub_self, if_pos (by decide)]
    have hpl : ∀ k, pth m k < 2 ^ 30 := fun k => by have := pa_lt hM h14 (Nat.le_refl _) k; unfold pth; omega
    have hb := ins_b70 (g := g) (n := nS m) (p := pth m) (upR Y0 1 g 1 pp) (hr3 pp) (hcn pp) h14 hpl (fun k hk => by rw [upR_at]; exact hp k (by omega) hk) 0 (Nat.zero_le _) FU ((upR Y0 1 g 1 pp) 1 g 2) (by have := FU_big; omega) trivial
    rw [upR_self] at hb
    obtain ⟨q', h1, h2⟩ := hb
    exact ⟨pp, q', h1, fun k hk => hp k (by omega) hk, h2⟩
  · intro d hd ih f pp f_h hp
    obtain ⟨f, rfl⟩ := fuel_s f_h
    unfold X3_rank_b13
    have es : nI (nS m - d) - nI 1 = nI (nS m - (d + 1)) := by
      rw [pk_sub (by omega)]; congr 1
    have hs : nS m - (d + 1) < nS m := by omega
    have hlt : ∀ k, pa m d k < 2 ^ 30 := fun k => by have := pa_lt hM h14 (show d ≤ nS m by omega) k; omega
    rw [es, if_neg (nI_pos (by omega)), gd2 (hr3 pp), gdi (show nS m - (d + 1) < 14 by omega), ix_n (by omega)]
    have hx : ∀ k, k < nS m → bt ((upR Y0 1 g 1 pp) 3 (rg (upR Y0 1 g 1 pp) g) 9 (nS m - (d + 1))) k = sucs m (nS m - (d + 1)) k := fun k hk => by
      rw [hrr, ek pp 3 (by omega), (hR.2.2.2.2.1 _ hs k (by omega)).2, decide_eq_true hk, Bool.true_and]
      unfold sucs
      cases c : isPred m (nS m - (d + 1)) k
      · rw [Bool.and_false]
      · rw [decide_eq_true (isPred_lt W hk c)]; rfl
    have hl := longest_ok (p := pa m d) (hr3 pp) (hcn pp) h14 hx (fun k hk hf => by
      unfold sucs at hf
      rw [Bool.and_eq_true, decide_eq_true_eq] at hf
      rw [upR_at]; exact hp k (by omega) hk) hlt
    rw [hl, bd1_e]
    have e2 : nI (nS m - (d + 1)) + -1 = nI (nS m - (d + 1)) - nI 1 := (Int32.sub_eq_add_neg _ _).symm
    have hd7 := (dur_ok hM hs).1
    have hfin : X3_rank_b60 g (X3_rank_b13 g f) (upR Y0 1 g 1 pp) (nI (nS m - (d + 1))) (nI (oP (pa m d) (best (sucs m (nS m - (d + 1))) (pa m d) (nS m)))) ((upR Y0 1 g 1 pp) 2 g 1 (nS m - (d + 1))) (nI (nS m - (d + 1))) = X3_rank_b13 g f (upR Y0 1 g 1 (upd pp (nS m - (d + 1)) (nI (pa m (d + 1) (nS m - (d + 1)))))) (nI (nS m - (d + 1)) - nI 1) := by
      unfold X3_rank_b60
      rw [gdi (show nS m - (d + 1) < 14 by omega), ix_n (by omega), lt_e, up_upR, e2, ek pp 2 (by omega), hdur _ hs, hd7, nI_add, pa_s, if_pos rfl, best_mxs]
    have hnext := ih f (upd pp (nS m - (d + 1)) (nI (pa m (d + 1) (nS m - (d + 1))))) (by omega) (fun k h1 h2 => by
      by_cases e : k = nS m - (d + 1)
      · rw [e, pk_us]
      · rw [pk_un e, pa_s, if_neg e]; exact hp k (by omega) h2)
    cases hb : best (sucs m (nS m - (d + 1))) (pa m d) (nS m) with
    | none =>
      rw [hb] at hfin
      have oj : oI none = -1 := rfl
      rw [oj, if_pos rfl]
      have := hfin
      show ∃ p' q', X3_rank_b60 g (X3_rank_b13 g f) (upR Y0 1 g 1 pp) (nI (nS m - (d + 1))) (nI (oP (pa m d) none)) ((upR Y0 1 g 1 pp) 2 g 1 (nS m - (d + 1))) (nI (nS m - (d + 1))) = _ ∧ _
      rw [hfin]
      exact hnext
    | some j =>
      rw [hb] at hfin
      have hj := best_lt hb
      have oj : oI (some j) = nI j := rfl
      rw [oj, if_neg (nI_neg1 (by omega)), gdi (show j < 14 by omega), ix_n (by omega), upR_at]
      have hjp : pp j = nI (oP (pa m d) (some j)) := by
        have hf := hj.2
        unfold sucs at hf
        rw [Bool.and_eq_true, decide_eq_true_eq] at hf
        exact hp j (by omega) hj.1
      rw [hjp, hfin]
      exact hnext
theorem rank_ok (Y : Mem) {g : Nat} {m : Nat → Int32} (W : WF m) (hM : MI m) (hR : RR Y (rg Y g) m) (hdur : ∀ s, s < nS m → Y 2 g 1 s = fld m s 7) : ∃ p' q', X3_rank Y g = some (upR (upR Y 1 g 1 p') 1 g 2 q') ∧ (∀ k, k < nS m → p' k = nI (pth m k)) ∧ Rep q' (ordR (pth m) (nS m)) := by
  have h14 := W.2.1
  unfold X3_rank
  rw [gd2 hR.1.1, gd2 hR.1.1, hR.1.2.1, lt_e]
  have := rank_b13 Y W hM hR hdur 0 (Nat.zero_le _) FU (Y 1 g 1) (by have := FU_big; omega) (fun k h1 h2 => by omega)
  rw [upR_self, Nat.sub_zero] at this
  exact this
