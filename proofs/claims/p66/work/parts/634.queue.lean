/-! THE MODEL'S QUEUE: the ready ones of the class's order -/
theorem ins_b32 {s : Nat} {p : Nat → Nat} {k8 : Mem → Int32 → Int32 → Option (Int32 × Mem)} (hs : s < 14) (hlt : ∀ k, p k < 2 ^ 30) : ∀ (xs : List Nat) (Y : Mem) (q : Nat → Int32) (fu : Nat) (l1 : Int32), xs.length ≤ 13 → xs.length < fu → Rep q xs → (∀ x ∈ xs, x < 14 ∧ Y 10 0 5 x = nI (p x)) → Y 10 0 5 s = nI (p s) →
    ∃ q', M12_queueReady_b32 k8 fu (upR Y 10 0 8 q) (nI xs.length) (nI s) l1 = k8 (upR Y 10 0 8 q') (nI (s + 1)) (l1 + nI 1) ∧ Rep q' (insr p s xs) ∧ ∀ j, xs.length < j → q' j = q j := by
  intro xs
  induction xs with
  | nil =>
    intro Y q fu l1 hl fu_h hR hm hps
    obtain ⟨fu, rfl⟩ := fuel_s fu_h
    unfold M12_queueReady_b32 M12_queueReady_b78 M12_queueReady_b88
    have e0 : nI ([] : List Nat).length = nI 0 := rfl
    rw [e0, if_pos (by decide), gdi (show 0 < 14 by omega), ix_n (by omega), lt_e, litI, nI_add, up_upR]
    exact ⟨upd q 0 (nI s), rfl, ⟨pk_us, trivial⟩, fun j hj => pk_un (by have : ([] : List Nat).length = 0 := rfl
                                                                        omega)⟩
  | cons x xs ih =>
    intro Y q fu l1 hl fu_h hR hm hps
    obtain ⟨fu, rfl⟩ := fuel_s fu_h
    have hll : (x :: xs).length = xs.length + 1 := rfl
    rw [hll] at hl fu_h
    unfold M12_queueReady_b32
    have ep : (upR Y 10 0 8 q) 10 0 5 = Y 10 0 5 := upR_o (by omega)
    have eq2 : (upR Y 10 0 8 q) 10 0 8 = q := upR_at _ _ _ _ _
    have hx := hm x (List.mem_cons_self)
    rw [hll, if_neg (nI_nle (by omega) (by omega))]
    simp only [litI]
    rw [pk_sub (show 1 ≤ xs.length + 1 by omega), Nat.add_sub_cancel, gdi (show xs.length < 14 by omega), ix_n (by omega), eq2, hR.1, gdi hx.1, gdi hs, ix_n (by omega), ix_n (by have := hx.1; omega), ep, hps, hx.2]
    have l1' := hlt x
    have l2' := hlt s
    unfold insr
    by_cases c : p x < p s
    · rw [if_neg (by rw [nI_leI (by omega) (by omega)]; omega), if_pos c, gdi (show xs.length + 1 < 14 by omega), ix_n (by omega), lt_e, up_upR]
      have e1 : nI (xs.length + 1) + -nI 1 = nI xs.length := pk_m1 _
      rw [e1]
      obtain ⟨q', h1, h2, h3⟩ := ih Y (upd q (xs.length + 1) (nI x)) fu l1 (by omega) (by omega) (Rep_congr (fun j hj => pk_un (by omega)) hR.2) (fun y hy => hm y (List.mem_cons_of_mem _ hy)) hps
      refine ⟨q', h1, ⟨?_, h2⟩, fun j hj => ?_⟩
      · rw [insr_len, h3 _ (Nat.lt_succ_self _), pk_us]
      · rw [h3 j (by omega), pk_un (by omega)]
    · rw [if_pos (by rw [nI_leI (by omega) (by omega)]; omega), if_neg c]
      unfold M12_queueReady_b78 M12_queueReady_b88
      rw [gdi (show xs.length + 1 < 14 by omega), ix_n (by omega), lt_e, litI, nI_add, up_upR]
      refine ⟨upd q (xs.length + 1) (nI s), rfl, ⟨pk_us, ?_⟩, fun j hj => pk_un (by omega)⟩
      exact Rep_congr (l := x :: xs) (fun j hj => pk_un (by have : j < xs.length + 1 := hj
                                                            omega)) hR
def qR (f : Nat → Bool) (p : Nat → Nat) : Nat → List Nat
  | 0 => []
  | i + 1 => if f i = true then insr p i (qR f p i) else qR f p i
theorem qR_s (f : Nat → Bool) (p : Nat → Nat) (i : Nat) : qR f p (i + 1) = if f i = true then insr p i (qR f p i) else qR f p i := rfl
theorem qR_mem {f : Nat → Bool} {p : Nat → Nat} : ∀ {i x : Nat}, x ∈ qR f p i ↔ x < i ∧ f x = true := by
  intro i
  induction i with
  | zero => intro x; unfold qR; simp
  | succ i ih =>
    intro x
    rw [qR_s]
    cases c : f i
    · rw [if_neg (by decide), ih]
      constructor
      · rintro ⟨h1, h2⟩; exact ⟨by omega, h2⟩
      · rintro ⟨h1, h2⟩
        by_cases e : x = i
        · subst e; rw [c] at h2; cases h2
        · exact ⟨by omega, h2⟩
    · rw [if_pos rfl, insr_mem, ih]
      constructor
      · rintro (rfl | ⟨h1, h2⟩)
        · exact ⟨by omega, c⟩
        · exact ⟨by omega, h2⟩
      · rintro ⟨h1, h2⟩
        by_cases e : x = i
        · exact Or.inl e
        · exact Or.inr ⟨by omega, h2⟩
theorem qR_len (f : Nat → Bool) (p : Nat → Nat) : ∀ i, (qR f p i).length ≤ i := by
  intro i
  induction i with
  | zero => exact Nat.le_refl 0
  | succ i ih =>
    rw [qR_s]
    split
    · rw [insr_len]; omega
    · omega
/-- smallest first -/
def Srt (p : Nat → Nat) : List Nat → Prop
  | [] => True
  | x :: xs => (∀ y ∈ xs, p x ≤ p y) ∧ Srt p xs
theorem insr_srt {p : Nat → Nat} {s : Nat} : ∀ {l : List Nat}, Srt p l → Srt p (insr p s l) := by
  intro l
  induction l with
  | nil => intro _; exact ⟨fun y hy => (by cases hy), trivial⟩
  | cons x xs ih =>
    intro h
    unfold insr
    by_cases c : p x < p s
    · rw [if_pos c]
      refine ⟨fun y hy => ?_, ih h.2⟩
      rcases insr_mem.mp hy with rfl | hy
      · omega
      · exact h.1 y hy
    · rw [if_neg c]
      refine ⟨fun y hy => ?_, h⟩
      rcases List.mem_cons.mp hy with rfl | hy
      · omega
      · have := h.1 y hy; omega
theorem ordR_srt (p : Nat → Nat) : ∀ i, Srt p (ordR p i) := by
  intro i
  induction i with
  | zero => trivial
  | succ i ih => unfold ordR; exact insr_srt ih
theorem insr_head {p : Nat → Nat} {s : Nat} {l : List Nat} (h : ∀ y ∈ l, ¬ p y < p s) : insr p s l = s :: l := by
  cases l with
  | nil => rfl
  | cons x xs => unfold insr; rw [if_neg (h x List.mem_cons_self)]
theorem insr_c (p : Nat → Nat) (s x : Nat) (xs : List Nat) : insr p s (x :: xs) = if p x < p s then x :: insr p s xs else s :: x :: xs := rfl
theorem filter_insr {p : Nat → Nat} {f : Nat → Bool} {s : Nat} : ∀ {l : List Nat}, Srt p l → (insr p s l).filter f = if f s = true then insr p s (l.filter f) else l.filter f := by
  intro l
  induction l with
  | nil =>
    intro _
    unfold insr
    cases c : f s <;> simp [c, insr]
  | cons x xs ih =>
    intro h
    rw [insr_c]
    by_cases c : p x < p s
    · rw [if_pos c, List.filter_cons, ih h.2, List.filter_cons]
      cases cx : f x
      · rfl
      · cases cs : f s
        · rfl
        · rw [if_pos rfl, if_pos rfl, if_pos rfl, if_pos rfl, insr_c, if_pos c]
    · rw [if_neg c, List.filter_cons]
      cases cs : f s
      · rfl
      · rw [if_pos rfl, if_pos rfl, insr_head]
        intro y hy
        have hm := (List.mem_filter.mp hy).1
        rcases List.mem_cons.mp hm with rfl | hm
        · exact c
        · have := h.1 y hm; omega
theorem qR_eq (f : Nat → Bool) (p : Nat → Nat) : ∀ i, qR f p i = (ordR p i).filter f := by
  intro i
  induction i with
  | zero => rfl
  | succ i ih =>
    rw [qR_s, ih]
    show _ = (insr p i (ordR p i)).filter f
    rw [filter_insr (ordR_srt p i)]
theorem queue_b8 (Y0 : Mem) (W : WF (Y0 10 0 1)) {p : Nat → Nat} (hlt : ∀ k, p k < 2 ^ 30) (hp : ∀ k, k < nS (Y0 10 0 1) → Y0 10 0 5 k = nI (p k)) : ∀ i, i ≤ nS (Y0 10 0 1) → ∀ f q, nS (Y0 10 0 1) - i < f → Rep q (qR (isReady (Y0 10 0 1)) p i) →
    ∃ q', M12_queueReady_b8 f (upR Y0 10 0 8 q) (nI i) (nI (qR (isReady (Y0 10 0 1)) p i).length) = some (nI (qR (isReady (Y0 10 0 1)) p (nS (Y0 10 0 1))).length, upR Y0 10 0 8 q') ∧ Rep q' (qR (isReady (Y0 10 0 1)) p (nS (Y0 10 0 1))) := by
  have h14 := W.2.1
  have em : ∀ q, (upR Y0 10 0 8 q) 10 0 1 = Y0 10 0 1 := fun q => upR_o (by omega)
  refine upl ?_ ?_
  · intro f q f_h hq
    obtain ⟨f, rfl⟩ := fuel_s f_h
    unfold M12_queueReady_b8
    simp (disch := omega) only [gdi, ix_n, litI]
    rw [em, W.1, if_pos (Int32.le_refl _)]
    exact ⟨q, rfl, hq⟩
  · intro i hi ih f q f_h hq
    obtain ⟨f, rfl⟩ := fuel_s f_h
    unfold M12_queueReady_b8
    simp (disch := omega) only [gdi, ix_n, litI]
    rw [em, W.1, if_neg (by rw [nI_leI (by omega) (by omega)]; omega)]
    have hrd := isReady_ok (upR Y0 10 0 8 q) (s := i) (by rw [em]; exact W) (by rw [em]; exact hi)
    rw [em] at hrd
    rw [hrd, bd1_e, bI_n]
    have hl := qR_len (isReady (Y0 10 0 1)) p i
    rw [qR_s] at ih
    cases c : isReady (Y0 10 0 1) i
    · rw [if_neg (by decide)]
      rw [c, if_neg (by decide)] at ih
      unfold M12_queueReady_b88
      rw [litI, nI_add]
      exact ih f q (by omega) hq
    · rw [if_pos rfl]
      rw [c, if_pos rfl, insr_len] at ih
      obtain ⟨q', h1, h2, -⟩ := ins_b32 (s := i) (p := p) (k8 := M12_queueReady_b8 f) (by omega) hlt (qR (isReady (Y0 10 0 1)) p i) Y0 q FU (nI (qR (isReady (Y0 10 0 1)) p i).length) (by omega) (by have := FU_big; omega) hq (fun x hx => by have := (qR_mem.mp hx).1; exact ⟨by omega, hp x (by omega)⟩) (hp i hi)
      rw [h1, nI_add]
      exact ih f q' (by omega) h2
theorem queue_ok (Y : Mem) (W : WF (Y 10 0 1)) (hM : MI (Y 10 0 1)) : ∃ p q, M12_queueReady Y = some (nI (qR (isReady (Y 10 0 1)) (pth (Y 10 0 1)) (nS (Y 10 0 1))).length, upR (upR Y 10 0 5 p) 10 0 8 q) ∧ Rep q (qR (isReady (Y 10 0 1)) (pth (Y 10 0 1)) (nS (Y 10 0 1))) := by
  have h14 := W.2.1
  unfold M12_queueReady
  obtain ⟨p, h1, h2⟩ := paths_ok Y W hM
  rw [h1, bd1_e]
  have em : (upR Y 10 0 5 p) 10 0 1 = Y 10 0 1 := upR_o (by omega)
  have hpl : ∀ k, pth (Y 10 0 1) k < 2 ^ 30 := fun k => by have := pa_lt hM h14 (Nat.le_refl _) k; unfold pth; omega
  have hb := queue_b8 (upR Y 10 0 5 p) (p := pth (Y 10 0 1)) (by rw [em]; exact W) hpl (by rw [em, upR_at]; exact h2) 0 (Nat.zero_le _) FU ((upR Y 10 0 5 p) 10 0 8) (by have := FU_big; rw [em]; omega) trivial
  rw [upR_self, em] at hb
  obtain ⟨q, q1, q2⟩ := hb
  exact ⟨p, q, q1, q2⟩
