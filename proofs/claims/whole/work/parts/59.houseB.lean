def cv (t : Nat → Nat) (p : Nat) : Nat → Nat
  | 0 => 0
  | j + 1 => min 100 (cv t p j * 10 + (t (p + j) - 48))
theorem cv_le (t : Nat → Nat) (p : Nat) : ∀ j, cv t p j ≤ 100
  | 0 => Nat.zero_le _
  | j + 1 => Nat.min_le_left _ _
/-- what number the token is; 100 if none that may stand anywhere -/
def vl (L : Nat) (t : Nat → Nat) (p e : Nat) : Nat := if kn L t p = 2 ∧ ¬ (t p = 48 ∧ 1 < e - p) then cv t p (e - p) else 100
def nbyts : List (List Nat) := [[109, 101, 109, 98, 101, 114], [115, 101, 99, 111, 110, 100, 115], [99, 111, 108, 100], [102, 117, 114], [99, 111, 117, 103, 104, 115]]
def wdl (k : Nat) : Nat := slens.getD k 0
def wdb (k i : Nat) : Nat := (nbyts.getD k []).getD i 0
theorem wdb_all : ∀ k, k < 5 → ∀ i, i < wdl k → sch k (nI i) = nI (wdb k i) ∧ 97 ≤ wdb k i ∧ wdb k i ≤ 122 := by decide +kernel
theorem wdl_all : ∀ k, k < 5 → 3 ≤ wdl k ∧ wdl k ≤ 7 := by decide
theorem wd_one : ∀ k, k < 5 → ∀ k', k' < 5 → wdl k = wdl k' → wdb k 0 = wdb k' 0 → k = k' := by decide
abbrev wm (t : Nat → Nat) (p e k : Nat) : Prop := e - p = wdl k ∧ ∀ i, i < wdl k → t (p + i) = wdb k i
/-- which word the token is; 5 if none -/
def wd (t : Nat → Nat) (p e : Nat) : Nat := if wm t p e 0 then 0 else if wm t p e 1 then 1 else if wm t p e 2 then 2 else if wm t p e 3 then 3 else if wm t p e 4 then 4 else 5
theorem wm_one {t : Nat → Nat} {p e k k' : Nat} (hk : k < 5) (hk' : k' < 5) (a : wm t p e k) (b : wm t p e k') : k = k' := by
  have l1 := wdl_all k hk
  have l2 := wdl_all k' hk'
  exact wd_one k hk k' hk' (a.1.symm.trans b.1) ((a.2 0 (by omega)).symm.trans (b.2 0 (by omega)))
theorem wd_no {t : Nat → Nat} {p e : Nat} (h : ∀ k, k < 5 → ¬ wm t p e k) : wd t p e = 5 := by
  unfold wd
  rw [if_neg (h 0 (by omega)), if_neg (h 1 (by omega)), if_neg (h 2 (by omega)), if_neg (h 3 (by omega)), if_neg (h 4 (by omega))]
theorem wd_of {t : Nat → Nat} {p e k : Nat} (hk : k < 5) (a : wm t p e k) : wd t p e = k := by
  have hne : ∀ k', k' < 5 → k' ≠ k → ¬ wm t p e k' := fun k' h g b => g (wm_one h hk b a)
  unfold wd
  rcases (show k = 0 ∨ k = 1 ∨ k = 2 ∨ k = 3 ∨ k = 4 by omega) with rfl | rfl | rfl | rfl | rfl
  · rw [if_pos a]
  · rw [if_neg (hne 0 (by omega) (by omega)), if_pos a]
  · rw [if_neg (hne 0 (by omega) (by omega)), if_neg (hne 1 (by omega) (by omega)), if_pos a]
  · rw [if_neg (hne 0 (by omega) (by omega)), if_neg (hne 1 (by omega) (by omega)), if_neg (hne 2 (by omega) (by omega)), if_pos a]
  · rw [if_neg (hne 0 (by omega) (by omega)), if_neg (hne 1 (by omega) (by omega)), if_neg (hne 2 (by omega) (by omega)), if_neg (hne 3 (by omega) (by omega)), if_pos a]
section
variable {L : Nat} {t : Nat → Nat} {xb yt : Nat → Int32}
theorem bI_in {j : Nat} (h : j < L) : bI L t j = nI (t j) := if_pos h
theorem s_val6 (h : TX L t xb yt) {q p e : Nat} (hT : TokR L t q p e) : f_X6_valueOfToken (nI L) (nI (kn L t p)) (nI p) (nI e) xb = some (nI (vl L t p e)) := by
  obtain ⟨h1, h2, h3, h4, h5, h6, h7⟩ := hT
  have hL := h.1
  unfold f_X6_valueOfToken f_X6_valueOfToken_37
  by_cases z : kn L t p = 2
  · obtain ⟨h8, h9⟩ : p < e ∧ ∀ j, p ≤ j → j < e → kn L t j = 2 := by
      rcases h7 with ⟨g, _⟩ | ⟨g, _⟩ | ⟨_, g1, g2, _⟩
      · omega
      · omega
      · exact ⟨g1, fun j a b => (g2 j a b).trans z⟩
    have loop : ∀ (fuel j : Nat), j ≤ e - p → e - p - j < fuel → f_X6_valueOfToken_44 (nI L) (nI 2) (nI p) (nI e) xb fuel (nI (cv t p j)) (nI (p + j)) = some (nI (cv t p (e - p))) := by
      intro fuel
      induction fuel with
      | zero => intro j g1 g2; omega
      | succ fuel ih =>
        intro j g1 g2
        show f_X6_valueOfToken_44_b _ _ _ _ _ (f_X6_valueOfToken_44 (nI L) (nI 2) (nI p) (nI e) xb fuel) _ _ = _
        unfold f_X6_valueOfToken_44_b
        by_cases g : j = e - p
        · subst g
          rw [if_pos (nI_le (by omega) (by omega))]
        · have hj : kn L t (p + j) = 2 := h9 (p + j) (by omega) (by omega)
          have hjL : p + j < L := by omega
          rw [kn_in hjL] at hj
          have hd := kb_2.mp hj
          have hc := cv_le t p j
          have e1 : (nI (cv t p j) * 10 + nI (t (p + j))) - 48 = nI (cv t p j * 10 + t (p + j) - 48) := by
            rw [show (10 : Int32) = nI 10 from rfl, u_mulz, nI_add, show (48 : Int32) = nI 48 from rfl, pk_sub (by omega)]
          have e2 : (if nI (cv t p j * 10 + t (p + j) - 48) < 100 then nI (cv t p j * 10 + t (p + j) - 48) else 100) = nI (cv t p (j + 1)) := by
            rw [cv, show cv t p j * 10 + (t (p + j) - 48) = cv t p j * 10 + t (p + j) - 48 by omega]
            by_cases c : cv t p j * 10 + t (p + j) - 48 < 100
            · rw [if_pos (show nI (cv t p j * 10 + t (p + j) - 48) < 100 from nI_lt (b := 100) c (by omega)), Nat.min_eq_right (by omega)]
            · rw [if_neg (show ¬ nI (cv t p j * 10 + t (p + j) - 48) < 100 from nI_nlt (b := 100) (by omega) (by omega)), Nat.min_eq_left (by omega)]; rfl
          rw [if_neg (nI_ge (by omega) (by omega)), s_b6 h (by omega), ob1_mk, bI_in hjL, e1, e2, bnd_mk, bnd_mk, nI_1]
          exact ih (j + 1) (by omega) (by omega)
    have hp : p < L := by omega
    have fin := loop FU 0 (by omega) (by show e - p - 0 < 20000; omega)
    rw [z, if_pos (show nI 2 = 2 from rfl), s_b6 h (by omega), ob1_mk]
    by_cases z48 : t p = 48
    · rw [if_pos ((bI_48 h p).mpr ⟨hp, z48⟩), pk_sub h5]
      by_cases g : 1 < e - p
      · rw [if_neg (show ¬ nI (e - p) ≤ 1 from nI_ge (a := 1) g (by omega)), vl, if_neg (fun w => w.2 ⟨z48, g⟩)]; rfl
      · rw [if_pos (show nI (e - p) ≤ 1 from nI_le (b := 1) (by omega) (by omega)), vl, if_pos ⟨z, fun w => g w.2⟩]
        exact fin
    · rw [if_neg (fun w => z48 ((bI_48 h p).mp w).2), vl, if_pos ⟨z, fun w => z48 w.1⟩]
      exact fin
  · rw [if_neg (show ¬ nI (kn L t p) = 2 from fun g => by
      have := kn_le (L := L) (t := t) p
      have := (nI_eq (b := 2) (by omega) (by omega)).mp g
      omega), vl, if_neg (fun w => z w.1)]; rfl
theorem s_isw (h : TX L t xb yt) {q p e : Nat} (hT : TokR L t q p e) {k : Nat} (hk : k < 5) : f_X6_isWord (nI L) (nI p) (nI e) xb k = some (if wm t p e k then 1 else 0) := by
  obtain ⟨h1, h2, h3, h4, h5, h6, h7⟩ := hT
  have hL := h.1
  have hl := wdl_all k hk
  unfold f_X6_isWord
  rw [pk_sub h5]
  by_cases g : e - p = wdl k
  · have loop : ∀ (fuel i : Nat), i ≤ wdl k → wdl k - i < fuel → (∀ i', i' < i → t (p + i') = wdb k i') → f_X6_isWord_20 (nI L) (nI p) (nI e) xb k fuel (nI i) = some (if wm t p e k then 1 else 0) := by
      intro fuel
      induction fuel with
      | zero => intro i g1 g2; omega
      | succ fuel ih =>
        intro i g1 g2 hb
        show f_X6_isWord_20_b _ _ _ _ _ (f_X6_isWord_20 (nI L) (nI p) (nI e) xb k fuel) _ = _
        unfold f_X6_isWord_20_b
        by_cases c : i = wdl k
        · subst c
          rw [if_pos (show sln k ≤ nI (wdl k) from nI_le (Nat.le_refl (wdl k)) (by omega)), if_pos (show wm t p e k from ⟨g, hb⟩)]
        · obtain ⟨w1, _, _⟩ := wdb_all k hk i (by omega)
          have ht := (h.2 (p + i) (by omega)).1
          rw [if_neg (show ¬ sln k ≤ nI i from nI_ge (show i < wdl k by omega) (show wdl k < 2 ^ 31 by omega)), nI_add, s_b6 h (by omega), ob1_mk, ing_nI (show i < slens.getD k 0 from (show i < wdl k by omega)) (s_lens_lt k), bI_in (by omega), w1]
          by_cases d : t (p + i) = wdb k i
          · rw [if_pos (show nI (t (p + i)) = nI (wdb k i) by rw [d]), bnd_mk, nI_1]
            refine ih (i + 1) (by omega) (by omega) (fun i' a => ?_)
            by_cases f : i' = i
            · rw [f]; exact d
            · exact hb i' (by omega)
          · rw [if_neg (show ¬ nI (t (p + i)) = nI (wdb k i) from fun z => d ((nI_eq (by omega) (by omega)).mp z)), if_neg (show ¬ wm t p e k from fun z => d (z.2 i (by omega)))]
    rw [if_pos (show nI (e - p) = sln k by rw [g]; rfl)]
    exact loop FU 0 (Nat.zero_le _) (by show wdl k - 0 < 20000; omega) (fun i' a => by omega)
  · rw [if_neg (show ¬ nI (e - p) = sln k from fun z => g ((nI_eq (b := wdl k) (by omega) (by omega)).mp z)), if_neg (show ¬ wm t p e k from fun z => g z.1)]
theorem i10 {c : Prop} [Decidable c] (h : c) : ¬ (if c then (1 : Int32) else 0) = 0 := by rw [if_pos h]; decide
theorem i00 {c : Prop} [Decidable c] (h : ¬ c) : (if c then (1 : Int32) else 0) = 0 := if_neg h
theorem s_which (h : TX L t xb yt) {q p e : Nat} (hT : TokR L t q p e) : f_X6_whichWord (nI L) (nI p) (nI e) xb = some (nI (wd t p e)) := by
  unfold f_X6_whichWord
  rw [s_isw h hT (show 0 < 5 by omega), ob1_mk]
  by_cases w0 : wm t p e 0
  · rw [if_neg (i10 w0), wd_of (by omega) w0]; rfl
  rw [if_pos (i00 w0), s_isw h hT (show 1 < 5 by omega), ob1_mk]
  by_cases w1 : wm t p e 1
  · rw [if_neg (i10 w1), wd_of (by omega) w1]; rfl
  rw [if_pos (i00 w1), s_isw h hT (show 2 < 5 by omega), ob1_mk]
  by_cases w2 : wm t p e 2
  · rw [if_neg (i10 w2), wd_of (by omega) w2]; rfl
  rw [if_pos (i00 w2), s_isw h hT (show 3 < 5 by omega), ob1_mk]
  by_cases w3 : wm t p e 3
  · rw [if_neg (i10 w3), wd_of (by omega) w3]; rfl
  rw [if_pos (i00 w3), s_isw h hT (show 4 < 5 by omega), ob1_mk]
  by_cases w4 : wm t p e 4
  · rw [if_neg (i10 w4), wd_of (by omega) w4]; rfl
  rw [if_pos (i00 w4), wd_no (fun k hk => by
    rcases (show k = 0 ∨ k = 1 ∨ k = 2 ∨ k = 3 ∨ k = 4 by omega) with rfl | rfl | rfl | rfl | rfl
    · exact w0
    · exact w1
    · exact w2
    · exact w3
    · exact w4)]; rfl
end
