/-! small things -/
theorem NR_alt {n : Nat} (hn : n ≤ 6) {W coat fur mins : Int32} {s : Nat → Int32} (h : NR n W coat fur mins s) : ∃ (w : Nat → Nat) (fu c : Nat), (∀ m, w m ≤ 20) ∧ (∀ m, n ≤ m → w m = 0) ∧ (c = 6 ∨ c < n) ∧ W = nI (pk w 32 6) ∧ coat = coatI c ∧ fu ≤ 5 ∧ fur = nI fu ∧ SRow s w c fu ∧ s 8 = mins := by
  obtain ⟨w, fu, h1, h2, h3, h4, h5, h6, h7, h8, h9, h10⟩ := h
  rcases h6 with q | ⟨c, hc, q⟩
  · exact ⟨w, fu, 6, h1, h2, Or.inl rfl, h3, q, h7, h8, ⟨h4, by rw [h5, q]; rfl, by rw [h9, h8]⟩, h10⟩
  · exact ⟨w, fu, c, h1, h2, Or.inr hc, h3, by rw [q, coatI_lt (by omega)], h7, h8, ⟨h4, by rw [h5, q, coatI_lt (by omega)], by rw [h9, h8]⟩, h10⟩
theorem NR_mk {n : Nat} (hn : n ≤ 6) {mins : Int32} {s : Nat → Int32} {w : Nat → Nat} {fu c : Nat} (h1 : ∀ m, w m ≤ 20) (h2 : ∀ m, n ≤ m → w m = 0) (h3 : c = 6 ∨ c < n) (h4 : fu ≤ 5) (h5 : SRow s w c fu) (h6 : s 8 = mins) : NR n (nI (pk w 32 6)) (coatI c) (nI fu) mins s :=
  ⟨w, fu, h1, h2, rfl, h5.1, h5.2.1, h3.elim (fun q => Or.inl (by rw [q]; rfl)) (fun q => Or.inr ⟨c, q, coatI_lt (by omega)⟩), h4, rfl, h5.2.2, h6⟩
theorem NR_cong {n : Nat} {W coat fur mins : Int32} {s s' : Nat → Int32} (h : NR n W coat fur mins s) (e : ∀ j, j < 9 → s' j = s j) : NR n W coat fur mins s' := by
  obtain ⟨w, fu, h1, h2, h3, h4, h5, h6, h7, h8, h9, h10⟩ := h
  exact ⟨w, fu, h1, h2, h3, fun m hm => by rw [e m (by omega)]; exact h4 m hm, by rw [e 6 (by omega)]; exact h5, h6, h7, h8, by rw [e 7 (by omega)]; exact h9, by rw [e 8 (by omega)]; exact h10⟩
theorem pos_nI {x : Int32} (h : 0 ≤ x) : ∃ j, j < 2 ^ 31 ∧ x = nI j := nI_of (fun q => by rw [Int32.lt_iff_toInt_lt] at q; rw [Int32.le_iff_toInt_le] at h; omega)
theorem nle_lt {a b : Int32} : ¬ a ≤ b ↔ b < a := by rw [Int32.le_iff_toInt_le, Int32.lt_iff_toInt_lt]; omega
theorem nlt_le {a b : Int32} : ¬ a < b ↔ b ≤ a := by rw [Int32.le_iff_toInt_le, Int32.lt_iff_toInt_lt]; omega
theorem m1_le {x : Int32} (h : (-1 : Int32) ≤ x) : x = -1 ∨ 0 ≤ x := by
  rw [Int32.le_iff_toInt_le] at h
  have h1 : (-1 : Int32).toInt = -1 := by decide
  have h0 : (0 : Int32).toInt = 0 := by decide
  by_cases q : x.toInt < 0
  · left
    apply Int32.toInt_inj.mp
    omega
  · right
    rw [Int32.le_iff_toInt_le]; omega
theorem s_has {n : Nat} (hn : n ≤ 6) (p : Int32) : (∃ m, m < n ∧ p = nI m ∧ f_X2_has (nI n) p = some 1 ∧ f_X8_isMember (nI n) p = some 1) ∨ (f_X2_has (nI n) p = some 0 ∧ f_X8_isMember (nI n) p = some 0) := by
  unfold f_X2_has f_X8_isMember
  have h0 : (0 : Int32).toInt = 0 := by decide
  have hm : (nI n - 1).toInt = (n : Int) - 1 := pk_sub_toInt (a := n) (b := 1) (by omega) (by omega)
  have hN : (nI n).toInt = n := nI_toInt (by omega)
  rw [s_in, ob1_mk]
  by_cases a : p < 0
  · right
    have a' := Int32.lt_iff_toInt_lt.mp a
    rw [if_pos a, if_neg (fun h => by have := Int32.le_iff_toInt_le.mp h.1; omega), zbg_01 (Or.inl rfl)]
    exact ⟨rfl, rfl⟩
  · obtain ⟨j, hj, rfl⟩ := nI_of a
    have hJ : (nI j).toInt = j := nI_toInt hj
    rw [if_neg a]
    rcases Nat.lt_or_ge j n with q | q
    · left
      refine ⟨j, q, rfl, ?_, ?_⟩
      · rw [if_neg (nI_ge q (by omega))]
      · rw [if_pos ⟨nI_pos' hj, by rw [Int32.le_iff_toInt_le, hm, hJ]; omega⟩, zbg_01 (Or.inr rfl)]
    · right
      refine ⟨?_, ?_⟩
      · rw [if_pos (nI_le q hj)]
      · rw [if_neg (fun h => by have := Int32.le_iff_toInt_le.mp h.2; rw [hm, hJ] at this; omega), zbg_01 (Or.inl rfl)]
theorem enc_dig : ∀ {p : List Nat}, (∀ m ∈ p, m < 8) → ∀ i, i < p.length → enc p / 8 ^ i % 8 = p.getD i 0
  | [], _, i, h => absurd h (Nat.not_lt_zero i)
  | m :: p, hp, i, h => by
    have hm := hp m List.mem_cons_self
    cases i with
    | zero => simp only [enc, Nat.pow_zero, Nat.div_one, List.getD_cons_zero]; omega
    | succ i =>
      have ih := enc_dig (p := p) (fun x hx => hp x (List.mem_cons_of_mem _ hx)) i (by rw [List.length_cons] at h; omega)
      rw [enc, Nat.pow_succ, Nat.mul_comm (8 ^ i) 8, ← Nat.div_div_eq_div_mul, List.getD_cons_succ, ← ih]
      congr 2
      omega
theorem s_speaker {n : Nat} (hn : n ≤ 6) {k r : Nat} (hk : k ≤ 5) (hr : r < n ^ k) {i : Nat} (hi : i < k) (t : Nat) : f_X4_speaker (nI i) (nI (t * 32768 + enc (pln n k r))) = some (nI ((pln n k r).getD i 0)) ∨ 2 ^ 31 ≤ t * 32768 + enc (pln n k r) := by
  rcases Nat.lt_or_ge (t * 32768 + enc (pln n k r)) (2 ^ 31) with q | q
  · left
    unfold f_X4_speaker
    rw [show (3 : Int32) = nI 3 from rfl, u_mulz, u_shr q (by omega), show (7 : Int32) = nI (2 ^ 3 - 1) from rfl, u_mask, Nat.pow_mul, show (2 ^ 3 : Nat) = 8 from rfl]
    rw [← enc_dig (fun m hm => by have := pln_mem hn hr m hm; omega) i (by rw [pln_length]; exact hi)]
    have e : t * 32768 = 8 ^ i * (8 * (t * 8 ^ (4 - i))) := by
      have : (32768 : Nat) = 8 ^ i * (8 * 8 ^ (4 - i)) := by
        rw [← Nat.pow_succ', ← Nat.pow_add, show i + (4 - i + 1) = 5 by omega]
      rw [this, Nat.mul_left_comm, Nat.mul_left_comm t 8]
    rw [e, Nat.mul_add_div (Nat.pow_pos (by omega)), Nat.mul_add_mod]
  · exact Or.inr q
