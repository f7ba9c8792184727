/-! the text's tokens, read by both -/
def TX (L : Nat) (t : Nat → Nat) (xb yt : Nat → Int32) : Prop := L ≤ 200 ∧ ∀ k, k < L → t k < 256 ∧ xb k &&& 255 = nI (t k) ∧ yt k = nI (t k)
def kb (x : Nat) : Nat := if 48 ≤ x ∧ x ≤ 57 then 2 else if 97 ≤ x ∧ x ≤ 122 then 4 else if x = 59 then 3 else 1
def kn (L : Nat) (t : Nat → Nat) (j : Nat) : Nat := if j < L then kb (t j) else 0
def bI (L : Nat) (t : Nat → Nat) (j : Nat) : Int32 := if j < L then nI (t j) else -1
theorem kb_all : ∀ x, x < 256 → f_X6_kindOf (nI x) = some (nI (kb x)) ∧ f_X8_in (nI x) 97 122 = some (if kb x = 4 then 1 else 0) ∧ f_X8_in (nI x) 48 57 = some (if kb x = 2 then 1 else 0) := by decide +kernel
theorem kb_one : ∀ x, x < 256 → (nI x = 59 ↔ kb x = 3) ∧ (nI x = 32 ↔ x = 32) ∧ (nI x = 48 ↔ x = 48) := by decide +kernel
theorem kb_le (x : Nat) : kb x = 1 ∨ kb x = 2 ∨ kb x = 3 ∨ kb x = 4 := by
  unfold kb; split; exact Or.inr (Or.inl rfl); split; exact Or.inr (Or.inr (Or.inr rfl)); split; exact Or.inr (Or.inr (Or.inl rfl)); exact Or.inl rfl
theorem kb_2 {x : Nat} : kb x = 2 ↔ 48 ≤ x ∧ x ≤ 57 := by
  unfold kb; split
  · simp_all
  · rename_i h; refine ⟨fun g => ?_, fun g => absurd g h⟩
    split at g
    · omega
    · split at g <;> omega
theorem kb_4 {x : Nat} : kb x = 4 ↔ 97 ≤ x ∧ x ≤ 122 := by
  unfold kb; split
  · exact ⟨fun g => by omega, fun g => by omega⟩
  · split
    · simp_all
    · rename_i h; refine ⟨fun g => ?_, fun g => absurd g h⟩
      split at g <;> omega
section
variable {L : Nat} {t : Nat → Nat} {xb yt : Nat → Int32}
theorem kn_in {j : Nat} (h : j < L) : kn L t j = kb (t j) := if_pos h
theorem kn_out {j : Nat} (h : ¬ j < L) : kn L t j = 0 := if_neg h
theorem kn_0 {j : Nat} : kn L t j = 0 ↔ ¬ j < L := by
  refine ⟨fun h g => ?_, kn_out⟩
  rw [kn_in g] at h
  rcases kb_le (t j) with q | q | q | q <;> omega
theorem kn_le (j : Nat) : kn L t j ≤ 4 := by
  by_cases h : j < L
  · rw [kn_in h]; rcases kb_le (t j) with q | q | q | q <;> omega
  · rw [kn_out h]; omega
theorem s_b6 (h : TX L t xb yt) {j : Nat} (hj : j ≤ 300) : f_X6_byteAt (nI L) xb (nI j) = some (bI L t j) := by
  unfold f_X6_byteAt bI
  have hL := h.1
  rw [if_neg (nI_pos (by omega))]
  by_cases q : j < L
  · rw [if_neg (nI_ge q (by omega)), if_neg (show ¬ (200 : Int32) ≤ nI j from nI_ge (b := 200) (by omega) (by omega)), ing_nI (by omega) (by omega), nI_clamp (by omega), if_pos q, (h.2 j q).2.1]
  · rw [if_pos (nI_le (by omega) (by omega)), if_neg q]
theorem s_b8 (h : TX L t xb yt) {j : Nat} (hj : j ≤ 300) : f_X8_byteAt (nI L) yt (nI j) = some (bI L t j) := by
  unfold f_X8_byteAt bI
  have hL := h.1
  by_cases q : j < L
  · rw [if_neg (nI_ge q (by omega)), ing_nI (by omega) (by omega), nI_clamp (by omega), if_pos q, (h.2 j q).2.2]
  · rw [if_pos (nI_le (by omega) (by omega)), if_neg q]
theorem s_kind (h : TX L t xb yt) (j : Nat) : f_X6_kindOf (bI L t j) = some (nI (kn L t j)) := by
  by_cases q : j < L
  · rw [bI, kn, if_pos q, if_pos q]; exact (kb_all _ (h.2 j q).1).1
  · rw [bI, kn, if_neg q, if_neg q]; decide +kernel
theorem s_ltr (h : TX L t xb yt) (j : Nat) : f_X8_in (bI L t j) 97 122 = some (if kn L t j = 4 then 1 else 0) := by
  by_cases q : j < L
  · rw [bI, kn, if_pos q, if_pos q]; exact (kb_all _ (h.2 j q).1).2.1
  · rw [bI, kn, if_neg q, if_neg q]; decide +kernel
theorem s_dig (h : TX L t xb yt) (j : Nat) : f_X8_in (bI L t j) 48 57 = some (if kn L t j = 2 then 1 else 0) := by
  by_cases q : j < L
  · rw [bI, kn, if_pos q, if_pos q]; exact (kb_all _ (h.2 j q).1).2.2
  · rw [bI, kn, if_neg q, if_neg q]; decide +kernel
theorem bI_sp (h : TX L t xb yt) (j : Nat) : bI L t j = 32 ↔ j < L ∧ t j = 32 := by
  by_cases q : j < L
  · rw [bI, if_pos q, (kb_one _ (h.2 j q).1).2.1]; exact ⟨fun g => ⟨q, g⟩, fun g => g.2⟩
  · rw [bI, if_neg q]; exact ⟨fun g => absurd g (by decide), fun g => absurd g.1 q⟩
theorem bI_sc (h : TX L t xb yt) (j : Nat) : bI L t j = 59 ↔ kn L t j = 3 := by
  by_cases q : j < L
  · rw [bI, kn, if_pos q, if_pos q]; exact (kb_one _ (h.2 j q).1).1
  · rw [bI, kn, if_neg q, if_neg q]; decide
theorem bI_48 (h : TX L t xb yt) (j : Nat) : bI L t j = 48 ↔ j < L ∧ t j = 48 := by
  by_cases q : j < L
  · rw [bI, if_pos q, (kb_one _ (h.2 j q).1).2.2]; exact ⟨fun g => ⟨q, g⟩, fun g => g.2⟩
  · rw [bI, if_neg q]; exact ⟨fun g => absurd g (by decide), fun g => absurd g.1 q⟩
theorem bI_ge (h : TX L t xb yt) (j : Nat) : (0 : Int32) ≤ bI L t j ↔ j < L := by
  by_cases q : j < L
  · rw [bI, if_pos q]; exact ⟨fun _ => q, fun _ => nI_pos' (by have := (h.2 j q).1; omega)⟩
  · rw [bI, if_neg q]; exact ⟨fun g => absurd g (by decide), fun g => absurd g q⟩
/-- from q on: blanks up to p, then the token from p to e -/
def TokR (L : Nat) (t : Nat → Nat) (q p e : Nat) : Prop := q ≤ p ∧ p ≤ L ∧ (∀ j, q ≤ j → j < p → t j = 32) ∧ (p < L → t p ≠ 32) ∧ p ≤ e ∧ e ≤ L ∧ ((kn L t p = 0 ∧ e = p) ∨ ((kn L t p = 1 ∨ kn L t p = 3) ∧ e = p + 1) ∨ ((kn L t p = 2 ∨ kn L t p = 4) ∧ p < e ∧ (∀ j, p ≤ j → j < e → kn L t j = kn L t p) ∧ kn L t e ≠ kn L t p))
theorem run_ex {p : Nat} (h0 : kn L t p ≠ 0) : ∀ (d e : Nat), e + d = L → p < e → (∀ j, p ≤ j → j < e → kn L t j = kn L t p) → ∃ e', p < e' ∧ e' ≤ L ∧ (∀ j, p ≤ j → j < e' → kn L t j = kn L t p) ∧ kn L t e' ≠ kn L t p
  | 0, e, h1, h2, h3 => ⟨e, h2, by omega, h3, by rw [kn_out (j := e) (by omega)]; exact fun h => h0 h.symm⟩
  | d + 1, e, h1, h2, h3 => by
    by_cases q : kn L t e = kn L t p
    · refine run_ex h0 d (e + 1) (by omega) (by omega) (fun j a b => ?_)
      by_cases g : j = e
      · rw [g]; exact q
      · exact h3 j a (by omega)
    · exact ⟨e, h2, by omega, h3, q⟩
theorem sk_ex : ∀ (d q : Nat), q + d = L → ∃ p, q ≤ p ∧ p ≤ L ∧ (∀ j, q ≤ j → j < p → t j = 32) ∧ (p < L → t p ≠ 32)
  | 0, q, h => ⟨q, Nat.le_refl q, by omega, fun j a b => by omega, fun h => by omega⟩
  | d + 1, q, h => by
    by_cases g : t q = 32
    · obtain ⟨p, h1, h2, h3, h4⟩ := sk_ex d (q + 1) (by omega)
      refine ⟨p, by omega, h2, fun j a b => ?_, h4⟩
      by_cases e : j = q
      · rw [e]; exact g
      · exact h3 j (by omega) b
    · exact ⟨q, Nat.le_refl q, by omega, fun j a b => by omega, fun _ => g⟩
theorem tok_ex {q : Nat} (h : q ≤ L) : ∃ p e, TokR L t q p e := by
  obtain ⟨p, h1, h2, h3, h4⟩ := sk_ex (L := L) (t := t) (L - q) q (by omega)
  by_cases z : kn L t p = 0
  · exact ⟨p, p, h1, h2, h3, h4, Nat.le_refl p, h2, Or.inl ⟨z, rfl⟩⟩
  · have hp : p < L := Decidable.byContradiction (fun g => z (kn_out g))
    by_cases z2 : kn L t p = 1 ∨ kn L t p = 3
    · exact ⟨p, p + 1, h1, h2, h3, h4, by omega, by omega, Or.inr (Or.inl ⟨z2, rfl⟩)⟩
    · have := kn_le (L := L) (t := t) p
      obtain ⟨e, g1, g2, g3, g4⟩ := run_ex z (L - (p + 1)) (p + 1) (by omega) (by omega) (fun j a b => by rw [show j = p by omega])
      exact ⟨p, e, h1, h2, h3, h4, by omega, g2, Or.inr (Or.inr ⟨by omega, g1, g3, g4⟩)⟩
theorem s_skip6 (h : TX L t xb yt) {p : Nat} (hp : p ≤ L) (hn : p < L → t p ≠ 32) (tok pl : Int32) : ∀ (fuel q : Nat), q ≤ p → p - q < fuel → (∀ j, q ≤ j → j < p → t j = 32) → f_X6_readToken_0 (nI L) xb fuel tok pl (nI q) = f_X6_readToken_37 (nI L) xb tok pl (nI p) := by
  intro fuel
  have hL := h.1
  induction fuel with
  | zero => intro q h1 h2; omega
  | succ fuel ih =>
    intro q h1 h2 h3
    show f_X6_readToken_0_b _ _ (f_X6_readToken_0 (nI L) xb fuel) _ _ _ = _
    unfold f_X6_readToken_0_b
    by_cases e : q = p
    · subst e
      by_cases g : q < L
      · rw [if_neg (nI_ge g (by omega)), s_b6 h (by omega), ob1_mk, if_neg (fun z => hn g ((bI_sp h q).mp z).2)]
      · rw [if_pos (nI_le (by omega) (by omega))]
    · rw [if_neg (nI_ge (by omega) (by omega)), s_b6 h (by omega), ob1_mk, if_pos ((bI_sp h q).mpr ⟨by omega, h3 q (Nat.le_refl q) (by omega)⟩), bnd_mk, nI_1]
      exact ih (q + 1) (by omega) (by omega) (fun j a b => h3 j (by omega) b)
theorem s_run6 (h : TX L t xb yt) {p e : Nat} (hk : kn L t p = 2 ∨ kn L t p = 4) (he : e ≤ L) (hr : ∀ j, p ≤ j → j < e → kn L t j = kn L t p) (hx : kn L t e ≠ kn L t p) : ∀ (fuel j : Nat), p ≤ j → j ≤ e → e - j < fuel → f_X6_readToken_73 (nI L) xb fuel (if j < e then 1 else 0) (nI (kn L t p)) (nI p) (nI j) = some (nI (kn L t p), nI p, nI e) := by
  intro fuel
  have hL := h.1
  induction fuel with
  | zero => intro j h1 h2 h3; omega
  | succ fuel ih =>
    intro j h1 h2 h3
    show f_X6_readToken_73_b _ _ (f_X6_readToken_73 (nI L) xb fuel) _ _ _ _ = _
    unfold f_X6_readToken_73_b
    by_cases g : j < e
    · have key : f_X6_readToken_114 (nI L) xb (f_X6_readToken_73 (nI L) xb fuel) (nI (kn L t p)) (nI p) (nI (j + 1)) = some (nI (kn L t p), nI p, nI e) := by
        unfold f_X6_readToken_114 f_X6_readToken_136 f_X6_readToken_137
        rw [s_b6 h (by omega), ob1_mk, s_kind h, ob1_mk]
        have := ih (j + 1) (by omega) (by omega) (by omega)
        have hk1 := kn_le (L := L) (t := t) (j + 1)
        have hk2 := kn_le (L := L) (t := t) p
        by_cases g2 : j + 1 < e
        · rw [if_pos (show nI (kn L t (j + 1)) = nI (kn L t p) by rw [hr (j + 1) (by omega) g2])]
          rw [if_pos g2] at this; exact this
        · have e1 : j + 1 = e := by omega
          rw [if_neg (show ¬ nI (kn L t (j + 1)) = nI (kn L t p) from fun z => by
            have := (nI_eq (by omega) (by omega)).mp z
            rw [e1] at this; exact hx this)]
          rw [if_neg g2] at this; exact this
      rw [if_neg (nI_ge (show j < L by omega) (by omega)), if_pos g, if_neg n10, bnd_mk, nI_1]
      rcases hk with hk | hk
      · rw [if_pos (show nI (kn L t p) = 2 by rw [hk]; rfl)]; exact key
      · rw [if_neg (show ¬ nI (kn L t p) = 2 by rw [hk]; decide), if_pos (show nI (kn L t p) = 4 by rw [hk]; rfl)]; exact key
    · have : j = e := by omega
      subst this
      rw [if_neg g]
      by_cases g2 : nI L ≤ nI j
      · rw [if_pos g2]
      · rw [if_neg g2, if_pos rfl]
theorem s_tok6 (h : TX L t xb yt) {q p e : Nat} (hT : TokR L t q p e) (tok pl : Int32) : f_X6_readToken (nI L) xb tok pl (nI q) = some (nI (kn L t p), nI p, nI e) := by
  obtain ⟨h1, h2, h3, h4, h5, h6, h7⟩ := hT
  have hL := h.1
  unfold f_X6_readToken
  rw [s_skip6 h h2 h4 tok pl FU q h1 (by show p - q < 20000; omega) h3]
  unfold f_X6_readToken_37 f_X6_readToken_72
  rw [s_b6 h (by omega), ob1_mk, s_kind h, ob1_mk]
  obtain ⟨f, hf⟩ : ∃ f, FU = f + 2 := ⟨19998, rfl⟩
  rcases h7 with ⟨z, rfl⟩ | ⟨z, rfl⟩ | ⟨z, h8, h9, h10⟩
  · rw [z, if_pos (show nI 0 = 0 from rfl), hf]
    show f_X6_readToken_73_b _ _ (f_X6_readToken_73 (nI L) xb (f + 1)) _ _ _ _ = _
    unfold f_X6_readToken_73_b
    rw [if_pos (nI_le (by have := kn_0.mp z; omega) (by omega))]
  · have hp : p < L := by
      rcases Nat.lt_or_ge p L with g | g
      · exact g
      · rw [kn_out (by omega)] at z; omega
    have ne : ∀ c : Nat, c ≤ 4 → kn L t p ≠ c → ¬ nI (kn L t p) = nI c := fun c a b z => by
      have := kn_le (L := L) (t := t) p
      exact b ((nI_eq (by omega) (by omega)).mp z)
    rw [if_neg (show ¬ nI (kn L t p) = 0 from ne 0 (by omega) (by omega)), hf]
    show f_X6_readToken_73_b _ _ (f_X6_readToken_73 (nI L) xb (f + 1)) _ _ _ _ = _
    unfold f_X6_readToken_73_b f_X6_readToken_136 f_X6_readToken_137
    rw [if_neg (nI_ge hp (by omega)), if_neg n10, bnd_mk, nI_1, if_neg (show ¬ nI (kn L t p) = 2 from ne 2 (by omega) (by omega)), if_neg (show ¬ nI (kn L t p) = 4 from ne 4 (by omega) (by omega))]
    show f_X6_readToken_73_b _ _ (f_X6_readToken_73 (nI L) xb f) _ _ _ _ = _
    unfold f_X6_readToken_73_b
    by_cases g2 : nI L ≤ nI (p + 1)
    · rw [if_pos g2]
    · rw [if_neg g2, if_pos rfl]
  · rw [if_neg (show ¬ nI (kn L t p) = 0 from fun g => by
      have := kn_le (L := L) (t := t) p
      have := (nI_eq (b := 0) (by omega) (by omega)).mp g
      omega)]
    have := s_run6 h z h6 h9 h10 FU p (Nat.le_refl p) (by omega) (by show e - p < 20000; omega)
    rw [if_pos h8] at this
    exact this
end
