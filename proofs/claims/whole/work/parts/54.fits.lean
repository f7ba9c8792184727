theorem bits_eq : ∀ (n a b : Nat), a < 2 ^ n → b < 2 ^ n → (∀ m, m < n → a / 2 ^ m % 2 = b / 2 ^ m % 2) → a = b
  | 0, a, b, ha, hb, _ => by rw [Nat.pow_zero] at ha hb; omega
  | n + 1, a, b, ha, hb, h => by
    have h0 := h 0 (by omega)
    rw [Nat.pow_zero, Nat.div_one, Nat.div_one] at h0
    rw [Nat.pow_succ] at ha hb
    have h1 := bits_eq n (a / 2) (b / 2) (by omega) (by omega) (fun m hm => by
      have := h (m + 1) (by omega)
      rw [Nat.pow_succ, Nat.mul_comm, ← Nat.div_div_eq_div_mul, ← Nat.div_div_eq_div_mul] at this
      exact this)
    omega
theorem sN_add (f : Nat → Nat) (a : Nat) : ∀ b, sN f (a + b) = sN f a + sN (fun r => f (a + r)) b
  | 0 => rfl
  | b + 1 => by
    show sN f (a + b) + f (a + b) = sN f a + (sN (fun r => f (a + r)) b + f (a + b))
    rw [sN_add f a b]; omega
theorem sN_none {f : Nat → Nat} : ∀ {n : Nat}, (∀ k, k < n → f k = 0) → sN f n = 0
  | 0, _ => rfl
  | n + 1, h => by rw [sN, sN_none (fun k hk => h k (by omega)), h n (by omega)]
section
variable {n cold fu ks : Nat} {S t z : Nat → Nat}
def sok (ks : Nat) (t z : Nat → Nat) (d F : Nat) : Bool := decide (∀ i, i < ks → t i = d → z i = F)
def fit (n cold : Nat) (S : Nat → Nat) (fu ks : Nat) (t z : Nat → Nat) : Nat → (Nat → Nat) → List Nat → Bool
  | d, w, [] => sok ks t z d (pk (fzb w) 2 n)
  | d, w, m :: p => sok ks t z d (pk (fzb w) 2 n) && !(w m == 0) && !(m == 6) && fit n cold S fu ks t z (d + 1) (aft cold S w m fu) p
theorem fit_iff : ∀ (p : List Nat) (d : Nat) (w : Nat → Nat), fit n cold S fu ks t z d w p = true ↔ okp cold S fu 6 w p = true ∧ ∀ j, j ≤ p.length → sok ks t z (d + j) (pk (fzb (run cold S fu w (p.take j))) 2 n) = true
  | [], d, w => by
    rw [fit, okp]
    refine ⟨fun h => ⟨rfl, fun j hj => ?_⟩, fun h => ?_⟩
    · have : j = 0 := by simp at hj; exact hj
      subst this; exact h
    · exact h.2 0 (Nat.zero_le _)
  | m :: p, d, w => by
    rw [fit, okp, Bool.and_eq_true, Bool.and_eq_true, Bool.and_eq_true, Bool.and_eq_true, Bool.and_eq_true, fit_iff p]
    refine ⟨fun ⟨⟨⟨h1, h2⟩, h3⟩, h4, h5⟩ => ⟨⟨⟨h2, h3⟩, h4⟩, fun j hj => ?_⟩, fun ⟨⟨⟨h2, h3⟩, h4⟩, h5⟩ => ⟨⟨⟨h5 0 (Nat.zero_le _), h2⟩, h3⟩, h4, fun j hj => ?_⟩⟩
    · cases j with
      | zero => exact h1
      | succ j =>
        rw [List.length_cons] at hj
        have := h5 j (by omega)
        rw [show d + (j + 1) = d + 1 + j by omega]
        exact this
    · have := h5 (j + 1) (by rw [List.length_cons]; omega)
      rw [show d + (j + 1) = d + 1 + j by omega] at this
      exact this
theorem s_allows {sets mins : Nat → Int32} (hks : ks ≤ 6) (hq : ∀ i, i < ks → t i ≤ 5 ∧ z i < 2 ^ 31 ∧ mins i = nI (t i) ∧ sets i = nI (z i)) {d F : Nat} (hd : d ≤ 5) (hF : F < 2 ^ 31) : ∀ (fl i : Nat), i ≤ ks → ks - i < fl → (∀ i', i' < i → t i' = d → z i' = F) → f_X5_allowsBehind_2 (nI ks) sets mins fl (nI d) (nI F) (nI i) = some (if sok ks t z d F = true then 1 else 0) := by
  intro fl
  induction fl with
  | zero => intro i h1 h2; omega
  | succ fl ih =>
    intro i h1 h2 h3
    show f_X5_allowsBehind_2_b _ _ _ (f_X5_allowsBehind_2 _ _ _ fl) _ _ _ = _
    unfold f_X5_allowsBehind_2_b f_X5_allowsBehind_50
    by_cases h : i = ks
    · subst h
      rw [if_pos (nI_le (Nat.le_refl i) (by omega)), if_pos (show sok i t z d F = true from decide_eq_true h3)]
    · obtain ⟨b1, b2, b3, b4⟩ := hq i (by omega)
      have g6 : ¬ (6 : Int32) ≤ nI i := nI_ge (a := i) (b := 6) (by omega) (by omega)
      rw [if_neg (nI_ge (show i < ks by omega) (by omega)), if_neg g6, if_neg g6, ing_nI (by omega) (by omega), ing_nI (by omega) (by omega), nI_clamp (by omega), b3, b4, bnd_mk, nI_1]
      by_cases e : t i = d
      · rw [if_pos (by rw [e])]
        by_cases e2 : z i = F
        · rw [if_pos (by rw [e2])]
          exact ih (i + 1) (by omega) (by omega) (fun i' hi' ht => by
            by_cases q : i' = i
            · rw [q]; exact e2
            · exact h3 i' (by omega) ht)
        · rw [if_neg (fun g => e2 ((nI_eq b2 hF).mp g)), if_neg (show ¬ sok ks t z d F = true from fun g => e2 (of_decide_eq_true (p := ∀ i, i < ks → t i = d → z i = F) g i (by omega) e))]
      · rw [if_neg (fun g => e ((nI_eq (by omega) (by omega)).mp g))]
        exact ih (i + 1) (by omega) (by omega) (fun i' hi' ht => by
          by_cases q : i' = i
          · exact absurd (q ▸ ht) e
          · exact h3 i' (by omega) ht)
def gf (n cold : Nat) (S : Nat → Nat) (fu ks : Nat) (t z : Nat → Nat) (d k : Nat) (w : Nat → Nat) (r : Nat) : Nat := if fit n cold S fu ks t z d w (pln n k r) = true then 1 else 0
theorem s_fitting {sets mins : Nat → Int32} (hn : n ≤ 6) (hc : cold ≤ 5) (hS : ∀ m, S m < 64) (h6 : ∀ m, 6 ≤ m → S m = 0) (hf : fu ≤ 5) (hks : ks ≤ 6) (hq : ∀ i, i < ks → t i ≤ 5 ∧ z i < 2 ^ 31 ∧ mins i = nI (t i) ∧ sets i = nI (z i)) {K : Nat} (hK : K ≤ 5) : ∀ (k : Nat), k ≤ K → ∀ (fuel : Nat) (w : Nat → Nat), k < fuel → (∀ m, w m ≤ 20) → (∀ m, n ≤ m → w m = 0) → f_X4_fittingFrom fuel (nI n) (nI cold) (nI fu) (lN (pk S 64 6)) (nI ks) sets mins (nI (pk w 32 6)) (nI (K - k)) (nI K) = some (nI (sN (gf n cold S fu ks t z (K - k) k w) (n ^ k))) := by
  intro k
  induction k with
  | zero =>
    intro hk fuel w hfu hw hz
    obtain ⟨fuel, rfl⟩ : ∃ f, fuel = f + 1 := ⟨fuel - 1, by omega⟩
    have hF := pk2_lt64 (fzb_lt w) hn
    show f_X4_fittingFrom_b (f_X4_fittingFrom fuel) _ _ _ _ _ _ _ _ _ _ = _
    unfold f_X4_fittingFrom_b f_X5_allowsBehind
    rw [s_frozen hn hw, ob1_mk, show (0 : Int32) = nI 0 from rfl, s_allows (t := t) (z := z) hks hq (show K - 0 ≤ 5 by omega) (by omega) FU 0 (Nat.zero_le _) (by show ks - 0 < 20000; omega) (fun i hi => absurd hi (Nat.not_lt_zero i)), ob1_mk]
    have e : sN (gf n cold S fu ks t z (K - 0) 0 w) (n ^ 0) = if sok ks t z (K - 0) (pk (fzb w) 2 n) = true then 1 else 0 := by
      show 0 + gf n cold S fu ks t z (K - 0) 0 w 0 = _
      rw [Nat.zero_add]; rfl
    rw [e]
    by_cases q : sok ks t z (K - 0) (pk (fzb w) 2 n) = true
    · rw [if_pos q, if_pos q, if_neg (show ¬ (1 : Int32) = nI 0 by decide), if_neg (show ¬ nI (K - 0) < nI K from nI_nlt (by omega) (by omega))]; rfl
    · rw [if_neg q, if_neg q, if_pos (show (0 : Int32) = nI 0 from rfl)]
  | succ k ih =>
    intro hk fuel w hfu hw hz
    obtain ⟨fuel, rfl⟩ : ∃ f, fuel = f + 1 := ⟨fuel - 1, by omega⟩
    have hF := pk2_lt64 (fzb_lt w) hn
    have hpow : n ^ (k + 1) = n * n ^ k := by rw [Nat.pow_succ, Nat.mul_comm]
    have hps := pow_small hn (show k + 1 ≤ 5 by omega)
    show f_X4_fittingFrom_b (f_X4_fittingFrom fuel) _ _ _ _ _ _ _ _ _ _ = _
    unfold f_X4_fittingFrom_b f_X5_allowsBehind
    rw [s_frozen hn hw, ob1_mk, show (0 : Int32) = nI 0 from rfl, s_allows (t := t) (z := z) hks hq (show K - (k + 1) ≤ 5 by omega) (by omega) FU 0 (Nat.zero_le _) (by show ks - 0 < 20000; omega) (fun i hi => absurd hi (Nat.not_lt_zero i)), ob1_mk]
    by_cases q : sok ks t z (K - (k + 1)) (pk (fzb w) 2 n) = true
    · rw [if_pos q, if_neg (show ¬ (1 : Int32) = nI 0 by decide), if_pos (show nI (K - (k + 1)) < nI K from nI_lt (by omega) (by omega))]
      have loop : ∀ (fl m : Nat), m ≤ n → n - m < fl → f_X4_fittingFrom_29 (nI n) (nI cold) (nI fu) (lN (pk S 64 6)) (nI ks) sets mins (f_X4_fittingFrom fuel) fl (nI (pk w 32 6)) (nI (K - (k + 1))) (nI K) (nI (sN (gf n cold S fu ks t z (K - (k + 1)) (k + 1) w) (m * n ^ k))) (nI m) = some (nI (sN (gf n cold S fu ks t z (K - (k + 1)) (k + 1) w) (n ^ (k + 1)))) := by
        intro fl
        induction fl with
        | zero => intro m h1 h2; omega
        | succ fl ihl =>
          intro m h1 h2
          show f_X4_fittingFrom_29_b _ _ _ _ _ _ _ _ (f_X4_fittingFrom_29 (nI n) (nI cold) (nI fu) (lN (pk S 64 6)) (nI ks) sets mins (f_X4_fittingFrom fuel) fl) _ _ _ _ _ = _
          unfold f_X4_fittingFrom_29_b f_X4_fittingFrom_73
          by_cases h : m = n
          · subst h
            rw [if_pos (nI_le (Nat.le_refl m) (by omega)), hpow]
          · have hmn : m < n := by omega
            have ha := Nat.add_mul m 1 (n ^ k)
            rw [Nat.one_mul] at ha
            have ihm := ihl (m + 1) (by omega) (by omega)
            rw [ha, sN_add] at ihm
            rw [if_neg (nI_ge hmn (by omega)), s_isFrozen hw (by omega), ob1_mk]
            by_cases f0 : w m = 0
            · rw [if_pos f0, if_neg n10, bnd_mk, nI_1]
              rw [sN_none (f := fun r => gf n cold S fu ks t z (K - (k + 1)) (k + 1) w (m * n ^ k + r)) (n := n ^ k) (fun r hr => by
                unfold gf
                rw [pln_first hmn hr, fit, f0]
                simp), Nat.add_zero] at ihm
              exact ihm
            · have hih := ih (by omega) fuel (aft cold S w m fu) (by omega) (fun i => aft_le hw m fu i) (fun i hi => aft_zero (hz i hi))
              rw [if_neg f0, if_pos rfl, ← coatI_lt (c := m) (by omega), s_afterMinute hn hc hS h6 hw hz m hf, ob1_mk, coatI_lt (c := m) (by omega), nI_1, show K - (k + 1) + 1 = K - k by omega, hih, ob1_mk, bnd_mk, bnd_mk, nI_1, nI_add]
              rw [sN_cong (f := fun r => gf n cold S fu ks t z (K - (k + 1)) (k + 1) w (m * n ^ k + r)) (g := gf n cold S fu ks t z (K - k) k (aft cold S w m fu)) (n := n ^ k) (fun r hr => by
                have hm6 : m ≠ 6 := by omega
                unfold gf
                rw [pln_first hmn hr, fit, q, show K - (k + 1) + 1 = K - k by omega]
                simp [f0, hm6])] at ihm
              exact ihm
      have := loop FU 0 (Nat.zero_le _) (by show n - 0 < 20000; omega)
      rw [Nat.zero_mul] at this
      exact this
    · rw [if_neg q, if_pos (show (0 : Int32) = nI 0 from rfl), sN_none]
      intro r hr
      obtain ⟨m, r', a1, a2, rfl⟩ := row_split hr
      unfold gf
      rw [pln_first a1 a2, fit]
      simp [q]
theorem Rows.at {b : Nat → Int32} : ∀ {d : Nat} {w : Nat → Nat} {c : Nat} (p : List Nat), Rows cold S fu b d w c p → ∀ j, j ≤ p.length → ∀ m, m < 6 → b (7 * (d + j) + m) = nI (run cold S fu w (p.take j) m)
  | d, w, c, [], h, j, hj, m, hm => by
    have : j = 0 := by simp at hj; exact hj
    subst this
    exact h.1 m hm
  | d, w, c, m0 :: p, h, j, hj, m, hm => by
    cases j with
    | zero => exact h.1.1 m hm
    | succ j =>
      rw [List.length_cons] at hj
      have := Rows.at p h.2 j (by omega) m hm
      rw [show d + (j + 1) = d + 1 + j by omega]
      exact this
theorem s_seen15 {seen seenAt board : Nat → Int32} (hn : n ≤ 6) (K4 : Int32 → Int32 → Int32 → Option Int32) {k i T Z : Nat} (hk : k ≤ 5) (hi : i < 6) (hT : T ≤ 5) (hZ : Z < 2 ^ n) (e1 : seenAt i = nI T) (e2 : seen i = nI Z) {W : Nat → Nat} (hW : ∀ m, W m ≤ 20) (hTk : T ≤ k) (hb : ∀ m, m < 6 → board (7 * T + m) = nI (W m)) (km : Int32) : ∀ (fl m : Nat) (x : Int32), m ≤ n → n - m < fl → (x = 0 ∨ x = 1) → ∃ x', (x' = 0 ∨ x' = 1) ∧ f_X8_isAsSeen_15 (nI n) km seen seenAt board K4 fl (nI k) x (nI i) (nI m) = f_X8_isAsSeen_98 (nI n) km seen seenAt board K4 (nI k) x' (nI i) ∧ (x' = 1 ↔ x = 1 ∧ ∀ m', m ≤ m' → m' < n → fzb W m' = Z / 2 ^ m' % 2) := by
  intro fl
  induction fl with
  | zero => intro m x h1 h2; omega
  | succ fl ih =>
    intro m x h1 h2 hx
    show ∃ x', _ ∧ f_X8_isAsSeen_15_b _ _ _ _ _ _ (f_X8_isAsSeen_15 (nI n) km seen seenAt board K4 fl) _ _ _ _ = _ ∧ _
    unfold f_X8_isAsSeen_15_b f_X8_isAsSeen_90 f_X8_isAsSeen_63 f_X8_isAsSeen_83 f_X8_isAsSeen_90 f_X8_isAsSeen_91
    by_cases h : m = n
    · subst h
      rw [if_pos (nI_le (Nat.le_refl m) (by omega))]
      exact ⟨x, hx, rfl, fun h => ⟨h, fun m' a b => by omega⟩, fun h => h.1⟩
    · have hmn : m < n := by omega
      have hp2 := p2n n (by omega)
      have hZ6 : Z < 64 := Nat.lt_of_lt_of_le hZ (show 2 ^ n ≤ 2 ^ 6 from Nat.pow_le_pow_right (by omega) hn)
      rw [if_neg (nI_ge hmn (by omega)), ing_nI hi (by omega), ing_nI hi (by omega), ing_nI hi (by omega), nI_clamp (by omega), e1, e2, if_neg (show ¬ nI k < nI T from nI_nlt hTk (by omega)), bnd_mk, nI_1]
      rcases hx with rfl | rfl
      · rw [if_pos rfl]
        obtain ⟨x', g1, g2, g3⟩ := ih (m + 1) 0 (by omega) (by omega) (Or.inl rfl)
        exact ⟨x', g1, g2, fun h => absurd (g3.mp h).1 (by decide), fun h => absurd h.1 (by decide)⟩
      · rw [if_neg n10, show (7 : Int32) * nI T = nI (7 * T) from u_mulz 7 T, nI_add, ing_nI (by omega) (by omega), nI_clamp (by omega), hb m (by omega), pk_bit hZ6 (by omega), bnd_mk]
        have hb2 : Z / 2 ^ m % 2 = 0 ∨ Z / 2 ^ m % 2 = 1 := by omega
        have go : ∀ v : Int32, (v = 0 ∨ v = 1) → (v = 1 ↔ fzb W m = Z / 2 ^ m % 2) → ∃ x', (x' = 0 ∨ x' = 1) ∧ f_X8_isAsSeen_15 (nI n) km seen seenAt board K4 fl (nI k) v (nI i) (nI (m + 1)) = f_X8_isAsSeen_98 (nI n) km seen seenAt board K4 (nI k) x' (nI i) ∧ (x' = 1 ↔ (1 : Int32) = 1 ∧ ∀ m', m ≤ m' → m' < n → fzb W m' = Z / 2 ^ m' % 2) := by
          intro v hv hv1
          obtain ⟨x', g1, g2, g3⟩ := ih (m + 1) v (by omega) (by omega) hv
          refine ⟨x', g1, g2, fun h => ⟨rfl, fun m' a b => ?_⟩, fun h => g3.mpr ⟨hv1.mpr (h.2 m (Nat.le_refl m) hmn), fun m' a b => h.2 m' (by omega) b⟩⟩
          by_cases q : m' = m
          · rw [q]; exact hv1.mp (g3.mp h).1
          · exact (g3.mp h).2 m' (by omega) b
        by_cases f0 : W m = 0
        · have ef : fzb W m = 1 := if_pos f0
          rw [if_pos (show nI (W m) = 0 by rw [f0]; rfl)]
          rcases hb2 with q | q
          · rw [q, if_neg (show ¬ nI 0 = 1 by decide), if_neg n10]
            exact go 0 (Or.inl rfl) ⟨fun h => absurd h (by decide), fun h => by omega⟩
          · rw [q, if_pos (show nI 1 = 1 from rfl), if_pos rfl]
            exact go 1 (Or.inr rfl) ⟨fun _ => by omega, fun _ => rfl⟩
        · have ef : fzb W m = 0 := if_neg f0
          have := hW m
          rw [if_neg (nI_ne0 (by omega) (by omega)), ing_nI hi (by omega)]
          rcases hb2 with q | q
          · rw [q, if_neg (show ¬ nI 0 = 1 by decide), if_pos rfl]
            exact go 1 (Or.inr rfl) ⟨fun _ => by omega, fun _ => rfl⟩
          · rw [q, if_pos (show nI 1 = 1 from rfl), if_neg (show ¬ (0 : Int32) = 1 by decide)]
            exact go 0 (Or.inl rfl) ⟨fun h => absurd h (by decide), fun h => by omega⟩
theorem s_seen4 {seen seenAt board : Nat → Int32} (hn : n ≤ 6) (hks : ks ≤ 6) (hq : ∀ i, i < ks → t i ≤ 5 ∧ z i < 2 ^ n ∧ seenAt i = nI (t i) ∧ seen i = nI (z i)) {k : Nat} (hk : k ≤ 5) {w : Nat → Nat} (hw : ∀ m, w m ≤ 20) {p : List Nat} (hb : ∀ j, j ≤ k → ∀ m, m < 6 → board (7 * j + m) = nI (run cold S fu w (p.take j) m)) : ∀ (fl i : Nat) (x : Int32), i ≤ ks → ks - i < fl → (x = 0 ∨ x = 1) → ∃ x', (x' = 0 ∨ x' = 1) ∧ f_X8_isAsSeen_4 (nI n) (nI ks) seen seenAt board fl (nI k) x (nI i) = some x' ∧ (x' = 1 ↔ x = 1 ∧ ∀ i', i ≤ i' → i' < ks → t i' ≤ k → z i' = pk (fzb (run cold S fu w (p.take (t i')))) 2 n) := by
  intro fl
  induction fl with
  | zero => intro i x h1 h2; omega
  | succ fl ih =>
    intro i x h1 h2 hx
    show ∃ x', _ ∧ f_X8_isAsSeen_4_b _ _ _ _ _ (f_X8_isAsSeen_4 (nI n) (nI ks) seen seenAt board fl) _ _ _ = _ ∧ _
    unfold f_X8_isAsSeen_4_b
    by_cases h : i = ks
    · subst h
      rw [if_pos (nI_le (Nat.le_refl i) (by omega)), zbg_01 hx]
      exact ⟨x, hx, rfl, fun h => ⟨h, fun i' a b => by omega⟩, fun h => h.1⟩
    · obtain ⟨b1, b2, b3, b4⟩ := hq i (by omega)
      rw [if_neg (nI_ge (show i < ks by omega) (by omega))]
      have hF : pk (fzb (run cold S fu w (p.take (t i)))) 2 n < 2 ^ n := pkz_lt _ 2 (fzb_lt _) n
      have step : ∃ x1, (x1 = 0 ∨ x1 = 1) ∧ f_X8_isAsSeen_15 (nI n) (nI ks) seen seenAt board (f_X8_isAsSeen_4 (nI n) (nI ks) seen seenAt board fl) FU (nI k) x (nI i) 0 = f_X8_isAsSeen_98 (nI n) (nI ks) seen seenAt board (f_X8_isAsSeen_4 (nI n) (nI ks) seen seenAt board fl) (nI k) x1 (nI i) ∧ (x1 = 1 ↔ x = 1 ∧ (t i ≤ k → z i = pk (fzb (run cold S fu w (p.take (t i)))) 2 n)) := by
        by_cases hT : t i ≤ k
        · obtain ⟨x1, g1, g2, g3⟩ := s_seen15 hn (f_X8_isAsSeen_4 (nI n) (nI ks) seen seenAt board fl) hk (show i < 6 by omega) b1 b2 b3 b4 (run_le _ hw) hT (hb (t i) hT) (nI ks) FU 0 x (Nat.zero_le _) (by show n - 0 < 20000; omega) hx
          refine ⟨x1, g1, g2, fun h => ⟨(g3.mp h).1, fun _ => ?_⟩, fun h => g3.mpr ⟨h.1, fun m' _ b => ?_⟩⟩
          · refine bits_eq n _ _ b2 hF (fun m hm => ?_)
            rw [← (g3.mp h).2 m (Nat.zero_le _) hm, pkz_dig _ 2 (by omega) (fzb_lt _) hm]
          · rw [h.2 hT, pkz_dig _ 2 (by omega) (fzb_lt _) b]
        · refine ⟨x, hx, ?_, fun h => ⟨h, fun q => absurd q hT⟩, fun h => h.1⟩
          show f_X8_isAsSeen_15_b _ _ _ _ _ _ _ _ _ _ _ = _
          unfold f_X8_isAsSeen_15_b
          rw [ing_nI (by omega) (by omega), nI_clamp (by omega), b3, if_pos (show nI k < nI (t i) from nI_lt (by omega) (by omega))]
          split <;> rfl
      obtain ⟨x1, g1, g2, g3⟩ := step
      rw [g2]
      unfold f_X8_isAsSeen_98
      rw [bnd_mk, nI_1]
      obtain ⟨x', k1, k2, k3⟩ := ih (i + 1) x1 (by omega) (by omega) g1
      refine ⟨x', k1, k2, fun hh => ⟨(g3.mp (k3.mp hh).1).1, fun i' a b c => ?_⟩, fun h => k3.mpr ⟨g3.mpr ⟨h.1, fun q => h.2 i (Nat.le_refl i) (by omega) q⟩, fun i' a b c => h.2 i' (by omega) b c⟩⟩
      by_cases q : i' = i
      · subst q; exact (g3.mp (k3.mp hh).1).2 c
      · exact (k3.mp hh).2 i' (by omega) b c
theorem s_f67 {seen seenAt yq ywm : Nat → Int32} (hn : n ≤ 6) (hc : cold ≤ 5) (hS : ∀ m, S m < 64) (h6 : ∀ m, 6 ≤ m → S m = 0) (hf : fu ≤ 5) (hy : ∀ c, c < n → yq c = nI (S c)) (hks : ks ≤ 6) (hq : ∀ i, i < ks → t i ≤ 5 ∧ z i < 2 ^ n ∧ seenAt i = nI (t i) ∧ seen i = nI (z i)) {k : Nat} (hk : k ≤ 5) {w : Nat → Nat} (hw : ∀ m, w m ≤ 20) (hz : ∀ m, n ≤ m → w m = 0) : ∀ (fl r : Nat) (b pi : Nat → Int32), r ≤ n ^ k → n ^ k - r < fl → BRow b 0 w 6 → ∃ b' pi', f_X8_fits_67 (nI n) (nI cold) (nI fu) (nI ks) ywm seen yq seenAt fl (nI k) (nI (sN (gf n cold S fu ks t z 0 k w) r)) (nI r) 0 b pi = some (nI (sN (gf n cold S fu ks t z 0 k w) (n ^ k)), 0, b', pi') := by
  have hps := pow_small hn hk
  intro fl
  induction fl with
  | zero => intro r b pi h1 h2; omega
  | succ fl ih =>
    intro r b pi h1 h2 hb
    show ∃ b' pi', f_X8_fits_67_b _ _ _ _ _ _ _ _ (f_X8_fits_67 _ _ _ _ _ _ _ _ fl) _ _ _ _ _ _ = _
    unfold f_X8_fits_67_b f_X8_fits_104 f_X8_fits_105
    rw [s_plans hn hk, ob1_mk]
    by_cases h : r = n ^ k
    · rw [if_pos (nI_le (by omega) (by omega)), h]
      exact ⟨b, pi, rfl⟩
    · have hr : r < n ^ k := by omega
      obtain ⟨b', pi', e1, e2, e3⟩ := s_isPlan hn hc hS h6 hy hf 6 hk hr pi hw hz hb
      rw [c9] at e1
      rw [if_neg (nI_ge hr (by omega)), e1, ob3_mk]
      have ihr := ih (r + 1) b' pi' (by omega) (by omega) e2
      rw [sN] at ihr
      by_cases o : okp cold S fu 6 w (pln n k r) = true
      · obtain ⟨e4, e5⟩ := e3 o
        have hrow := Rows.at _ e4
        rw [pln_length] at hrow
        obtain ⟨x', g1, g2, g3⟩ := s_seen4 hn hks hq hk hw (board := b') (p := pln n k r) (fun j hj m hm => by have := hrow j hj m hm; rw [Nat.zero_add] at this; exact this) FU 0 1 (Nat.zero_le _) (by show ks - 0 < 20000; omega) (Or.inr rfl)
        have hfit : fit n cold S fu ks t z 0 w (pln n k r) = true ↔ x' = 1 := by
          rw [fit_iff, g3, pln_length]
          refine ⟨fun h => ⟨rfl, fun i _ hi ht => ?_⟩, fun h => ⟨o, fun j hj => decide_eq_true (fun i hi ht => ?_)⟩⟩
          · exact of_decide_eq_true (p := ∀ i', i' < ks → t i' = 0 + t i → z i' = pk (fzb (run cold S fu w ((pln n k r).take (t i)))) 2 n) (h.2 (t i) ht) i hi (Nat.zero_add _).symm
          · rw [Nat.zero_add] at ht
            have := h.2 i (Nat.zero_le _) hi (by omega)
            rw [ht] at this
            exact this
        unfold f_X8_isAsSeen
        rw [if_pos o, if_neg n10, show (0 : Int32) = nI 0 from rfl, g2, ob1_mk]
        rcases g1 with rfl | rfl
        · rw [if_pos (show (0 : Int32) = nI 0 from rfl), bnd_mk, bnd_mk, nI_1, nI_add]
          rw [show gf n cold S fu ks t z 0 k w r = 0 from if_neg (fun h => absurd (hfit.mp h) (by decide))] at ihr
          exact ihr
        · rw [if_neg (show ¬ (1 : Int32) = nI 0 by decide), bnd_mk, bnd_mk, nI_1, nI_1]
          rw [show gf n cold S fu ks t z 0 k w r = 1 from if_pos (hfit.mpr rfl)] at ihr
          exact ihr
      · rw [if_neg o, if_pos rfl, bnd_mk, bnd_mk, nI_1, show (0 : Int32) = nI 0 from rfl, nI_add]
        rw [show gf n cold S fu ks t z 0 k w r = 0 from if_neg (fun h => o ((fit_iff _ _ _).mp h).1)] at ihr
        exact ihr
theorem s_f18 {seen seenAt yq ywm : Nat → Int32} (hn : n ≤ 6) {w : Nat → Nat} (hz : ∀ m, n ≤ m → w m = 0) (hyw : ∀ m, m < n → ywm m = nI (w m)) (km x : Int32) (pi : Nat → Int32) : ∀ (fl j : Nat) (b : Nat → Int32), j ≤ 6 → 6 - j < fl → (∀ m, m < j → b m = nI (w m)) → ∃ b', f_X8_fits_18 (nI n) (nI cold) (nI fu) km ywm seen yq seenAt fl x (nI j) 0 b pi = f_X8_fits_67 (nI n) (nI cold) (nI fu) km ywm seen yq seenAt FU x 0 0 0 b' pi ∧ BRow b' 0 w 6 := by
  intro fl
  induction fl with
  | zero => intro j b h1 h2; omega
  | succ fl ih =>
    intro j b h1 h2 h3
    show ∃ b', f_X8_fits_18_b _ _ _ _ _ _ _ _ (f_X8_fits_18 _ _ _ _ _ _ _ _ fl) _ _ _ _ _ = _ ∧ _
    unfold f_X8_fits_18_b f_X8_fits_47
    by_cases h : j = 6
    · subst h
      rw [if_pos (show (6 : Int32) ≤ nI 6 from nI_le (Nat.le_refl 6) (by omega)), ing_ok (by decide), cl6, bnd_mk]
      refine ⟨_, rfl, fun m hm => ?_, ?_⟩
      · rw [Nat.mul_zero, Nat.zero_add, upd_n (by omega), h3 m hm]
      · rw [Nat.mul_zero, Nat.zero_add, upd_s, c9]
    · rw [if_neg (show ¬ (6 : Int32) ≤ nI j from nI_ge (a := j) (b := 6) (by omega) (by omega)), ing_nI (by omega) (by omega), ing_nI (by omega) (by omega), ing_nI (by omega) (by omega), nI_clamp (by omega), bnd_mk, bnd_mk, bnd_mk, bnd_mk, nI_1]
      by_cases q : n ≤ j
      · rw [if_pos (nI_le q (by omega))]
        refine ih (j + 1) _ (by omega) (by omega) (fun m hm => ?_)
        by_cases e : m = j
        · rw [e, upd_s, hz j q]; rfl
        · rw [upd_n e, h3 m (by omega)]
      · rw [if_neg (nI_ge (by omega) (by omega)), hyw j (by omega)]
        refine ih (j + 1) _ (by omega) (by omega) (fun m hm => ?_)
        by_cases e : m = j
        · rw [e, upd_s]
        · rw [upd_n e, h3 m (by omega)]
end
set_option maxHeartbeats 4000000 in
theorem st_fits (x_trace : Int64) (x_text_length : Int32) (x_text_token : Int32) (x_text_number : Int32) (x_text_place : Int32) (x_text_next : Int32) (x_text_toldOnce : Int32) (x_text_bytes : Nat → Int32) (x_parliament_members : Int32) (x_parliament_firstWarmth : Int32) (x_parliament_forMotion : Int32) (x_parliament_cold : Int32) (x_parliament_fur : Int32) (x_parliament_coughs : Int32) (x_parliament_seconds : Int32) (x_parliament_pairs : Int64) (x_draft_members : Int32) (x_draft_firstWarmth : Int32) (x_draft_forMotion : Int32) (x_draft_cold : Int32) (x_draft_fur : Int32) (x_draft_coughs : Int32) (x_draft_seconds : Int32) (x_draft_pairs : Int64) (x_now_warmth : Int32) (x_now_wearer : Int32) (x_now_fur : Int32) (x_now_minutes : Int32) (x_now_lot : Int32) (x_past_known : Int32) (x_past_states_e_warmth : Nat → Int32) (x_past_states_e_wearer : Nat → Int32) (x_past_states_e_fur : Nat → Int32) (x_past_states_e_minutes : Nat → Int32) (x_past_states_e_lot : Nat → Int32) (x_seen_known : Int32) (x_seen_minutes : Nat → Int32) (x_seen_sets : Nat → Int32) (x_images_e_kept : Nat → Int32) (x_images_e_state_warmth : Nat → Int32) (x_images_e_state_wearer : Nat → Int32) (x_images_e_state_fur : Nat → Int32) (x_images_e_state_minutes : Nat → Int32) (x_images_e_state_lot : Nat → Int32) (y_thrown : Int32) (y_trace : Int64) (y_typed : Int32) (y_next : Int32) (y_token : Int32) (y_place : Int32) (y_value : Int32) (y_fault : Int32) (y_members : Int32) (y_pairs : Int32) (y_cold : Int32) (y_fur : Int32) (y_coughs : Int32) (y_draftMembers : Int32) (y_draftPairs : Int32) (y_draftCold : Int32) (y_draftFur : Int32) (y_draftCoughs : Int32) (y_undoMany : Int32) (y_seenMany : Int32) (y_chosen : Int32) (y_text : Nat → Int32) (y_warmth : Nat → Int32) (y_side : Nat → Int32) (y_seconds : Nat → Int32) (y_s : Nat → Int32) (y_kept : Nat → Int32) (y_isKept : Nat → Int32) (y_undos : Nat → Int32) (y_seenAt : Nat → Int32) (y_seen : Nat → Int32) (y_board : Nat → Int32) (y_pick : Nat → Int32) (y_worth : Nat → Int32) (y_best : Nat → Int32) (hR : Rel x_trace x_text_length x_text_token x_text_number x_text_place x_text_next x_text_toldOnce x_text_bytes x_parliament_members x_parliament_firstWarmth x_parliament_forMotion x_parliament_cold x_parliament_fur x_parliament_coughs x_parliament_seconds x_parliament_pairs x_draft_members x_draft_firstWarmth x_draft_forMotion x_draft_cold x_draft_fur x_draft_coughs x_draft_seconds x_draft_pairs x_now_warmth x_now_wearer x_now_fur x_now_minutes x_now_lot x_past_known x_past_states_e_warmth x_past_states_e_wearer x_past_states_e_fur x_past_states_e_minutes x_past_states_e_lot x_seen_known x_seen_minutes x_seen_sets x_images_e_kept x_images_e_state_warmth x_images_e_state_wearer x_images_e_state_fur x_images_e_state_minutes x_images_e_state_lot y_thrown y_trace y_typed y_next y_token y_place y_value y_fault y_members y_pairs y_cold y_fur y_coughs y_draftMembers y_draftPairs y_draftCold y_draftFur y_draftCoughs y_undoMany y_seenMany y_chosen y_text y_warmth y_side y_seconds y_s y_kept y_isKept y_undos y_seenAt y_seen y_board y_pick y_worth y_best) (a1 : Int32) : ∃ (r : Int32) (y_thrown1 : Int32) (y_board1 : Nat → Int32) (y_pick1 : Nat → Int32), f_X7_fits x_parliament_members x_parliament_firstWarmth x_parliament_cold x_parliament_fur x_parliament_pairs x_seen_known x_seen_sets x_seen_minutes a1 = some r ∧ f_X8_fits y_members y_cold y_fur y_seenMany y_warmth y_seen y_seconds y_seenAt y_thrown y_board y_pick a1 = some (r, y_thrown1, y_board1, y_pick1) ∧ Rel x_trace x_text_length x_text_token x_text_number x_text_place x_text_next x_text_toldOnce x_text_bytes x_parliament_members x_parliament_firstWarmth x_parliament_forMotion x_parliament_cold x_parliament_fur x_parliament_coughs x_parliament_seconds x_parliament_pairs x_draft_members x_draft_firstWarmth x_draft_forMotion x_draft_cold x_draft_fur x_draft_coughs x_draft_seconds x_draft_pairs x_now_warmth x_now_wearer x_now_fur x_now_minutes x_now_lot x_past_known x_past_states_e_warmth x_past_states_e_wearer x_past_states_e_fur x_past_states_e_minutes x_past_states_e_lot x_seen_known x_seen_minutes x_seen_sets x_images_e_kept x_images_e_state_warmth x_images_e_state_wearer x_images_e_state_fur x_images_e_state_minutes x_images_e_state_lot y_thrown1 y_trace y_typed y_next y_token y_place y_value y_fault y_members y_pairs y_cold y_fur y_coughs y_draftMembers y_draftPairs y_draftCold y_draftFur y_draftCoughs y_undoMany y_seenMany y_chosen y_text y_warmth y_side y_seconds y_s y_kept y_isKept y_undos y_seenAt y_seen y_board1 y_pick1 y_worth y_best := by
  have hR0 := hR
  obtain ⟨n, w0, sd, S, cold, fur0, coughs, sc, hWf, hC, hM, hN, hlot, hPast, hSeen, hImg, htr, hTx⟩ := hR
  obtain ⟨hn6, hw020, hw0z, hsd1, hsdz, hS64, hSz, hcold, hfur0, hcoughs, hsc⟩ := id hWf
  have hC' := hC
  have hM' := hM
  have hN' := hN
  obtain ⟨rfl, rfl, rfl, rfl, rfl, rfl, rfl, rfl⟩ := hC
  obtain ⟨rfl, rfl, rfl, rfl, rfl, hrows⟩ := hM
  obtain ⟨w, fu, c, hw, hz, hc6, rfl, rfl, hf5, rfl, hrow, hs8⟩ := NR_alt hn6 hN
  have h6 : ∀ m, 6 ≤ m → S m = 0 := fun m hm => hSz m (by omega)
  have hy : ∀ m, m < n → y_seconds m = nI (S m) := fun m hm => (hrows m hm).2.2
  have hss : ∀ m, m < n → sd m ≤ 1 ∧ y_side m = nI (sd m) := fun m hm => ⟨hsd1 m, (hrows m hm).2.1⟩
  unfold f_X7_fits f_X8_fits
  by_cases q : (0 : Int32) ≤ a1 ∧ a1 ≤ 5
  · have e1 : f_X7_isPlanLength a1 = some 1 := by rw [s_pl, if_pos q]
    have e2 : f_X8_in a1 0 5 = some 1 := by rw [s_in, if_pos q]
    obtain ⟨k, hk, rfl⟩ := rng (N := 5) (by omega) q.1 q.2
    obtain ⟨ks, t, z, hks, rfl, rfl, hq⟩ := hSeen
    have hp2 := p2n n (by omega)
    have hps := pow_small hn6 hk
    have e3 := s_fitting (sets := x_seen_sets) (mins := x_seen_minutes) hn6 hcold hS64 h6 hfur0 hks (fun i hi => ⟨(hq i hi).1, by have := (hq i hi).2.1; omega, (hq i hi).2.2.1, (hq i hi).2.2.2.2.1⟩) hk k (Nat.le_refl k) 8 w0 (by omega) hw020 hw0z
    obtain ⟨b0, e4, hb0⟩ := s_f18 (cold := cold) (fu := fur0) (seen := y_seen) (seenAt := y_seenAt) (yq := y_seconds) (ywm := y_warmth) hn6 hw0z (fun m hm => (hrows m hm).1) (nI ks) (nI k) y_pick FU 0 y_board (by omega) (by show 6 - 0 < 20000; omega) (fun m hm => absurd hm (Nat.not_lt_zero m))
    obtain ⟨b', pi', e5⟩ := s_f67 (seen := y_seen) (seenAt := y_seenAt) (ywm := y_warmth) hn6 hcold hS64 h6 hfur0 hy hks (fun i hi => ⟨(hq i hi).1, (hq i hi).2.1, (hq i hi).2.2.2.1, (hq i hi).2.2.2.2.2⟩) hk hw020 hw0z FU 0 b0 y_pick (Nat.zero_le _) (by show n ^ k - 0 < 20000; omega) hb0
    unfold f_X4_fitting
    rw [Nat.sub_self] at e3
    rw [e1, ob1_mk, e2, ob1_mk, if_neg n10, if_neg n10]
    have e4' : f_X8_fits_18 (nI n) (nI cold) (nI fur0) (nI ks) y_warmth y_seen y_seconds y_seenAt FU (nI k) 0 0 y_board y_pick = _ := e4
    have e5' : f_X8_fits_67 (nI n) (nI cold) (nI fur0) (nI ks) y_warmth y_seen y_seconds y_seenAt FU (nI k) 0 0 0 b0 y_pick = _ := e5
    have e3' : f_X4_fittingFrom 8 (nI n) (nI cold) (nI fur0) (lN (pk S 64 6)) (nI ks) x_seen_sets x_seen_minutes (nI (pk w0 32 6)) 0 (nI k) = _ := e3
    rw [e3', ob1_mk, ob1_mk, e4', e5']
    exact ⟨_, 0, _, _, rfl, rfl, hR0⟩
  · have e1 : f_X7_isPlanLength a1 = some 0 := by rw [s_pl, if_neg q]
    have e2 : f_X8_in a1 0 5 = some 0 := by rw [s_in, if_neg q]
    rw [e1, ob1_mk, e2, ob1_mk, if_pos rfl, if_pos rfl]
    exact ⟨_, 0, _, _, rfl, rfl, hR0⟩
