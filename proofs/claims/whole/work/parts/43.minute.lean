/-! a minute -/
/-- the wearer's number: 6 is nobody -/
def coatI (c : Nat) : Int32 := if c < 6 then nI c else -9
/-- what a minute makes of the warmths: c wears the coat -/
def aft (cold : Nat) (S : Nat → Nat) (w : Nat → Nat) (c fu : Nat) (m : Nat) : Nat :=
  if w m = 0 then 0 else if m = c then min 20 (w m + fu) else if S c / 2 ^ m % 2 = 1 then w m else w m - cold
theorem aft_le {cold : Nat} {S w : Nat → Nat} (hw : ∀ m, w m ≤ 20) (c fu m : Nat) : aft cold S w c fu m ≤ 20 := by
  have := hw m
  unfold aft
  split
  · omega
  · split
    · omega
    · split <;> omega
theorem aft_zero {cold : Nat} {S w : Nat → Nat} {c fu m : Nat} (h : w m = 0) : aft cold S w c fu m = 0 := by unfold aft; rw [if_pos h]
theorem s_secondersOf {S : Nat → Nat} (hS : ∀ m, S m < 64) (h6 : ∀ m, 6 ≤ m → S m = 0) (c : Nat) : f_X2_secondersOf (lN (pk S 64 6)) (coatI c) = some (nI (S c)) := by
  unfold f_X2_secondersOf coatI
  by_cases h : c < 6
  · rw [if_pos h, if_pos (nI_pos' (by omega))]
    have h1 : pk S 64 6 < 64 ^ 6 := pkz_lt S 64 hS 6
    rw [show (6 : Int32) = nI 6 from rfl, u_mulz, nI_l (by omega)]
    have h2 : (lN (6 * c) &&& 63) = lN (6 * c) := by
      have := wb_c (6 * c) (by omega)
      rw [nI_l (by omega)] at this
      exact this
    rw [h2, pf_shr (d := 6 * c) (by rw [lN_bv, wb_sm _ (by omega)]; simp; omega) (by omega), lN_i, show (63 : Int32) = nI (2 ^ 6 - 1) from rfl, u_mask, Nat.pow_mul, show (2 ^ 6 : Nat) = 64 from rfl, pkz_dig S 64 (by omega) hS h]
  · rw [if_neg h, if_neg (by decide), h6 c (by omega)]
    rfl
theorem pk_bit {v : Nat} {m : Nat} (hv : v < 64) (hm : m < 6) : (nI v >>> (nI m &&& 31)) &&& 1 = nI (v / 2 ^ m % 2) := by
  rw [u_shr (by omega) (by omega), show (1 : Int32) = nI (2 ^ 1 - 1) from rfl, u_mask]
theorem bit01 (a : Nat) : nI (a % 2) = 0 ↔ a % 2 = 0 := by
  rcases Nat.mod_two_eq_zero_or_one a with q | q <;> rw [q] <;> decide
theorem s_aft_loop {n : Nat} (hn : n ≤ 6) {cold : Nat} (hc : cold ≤ 5) {S w : Nat → Nat} (hS : ∀ m, S m < 64) (hw : ∀ m, w m ≤ 20) (c : Nat) {fu : Nat} (hf : fu ≤ 5) {P : Int64} : ∀ (fuel m : Nat), m ≤ n → n - m < fuel → f_X2_afterMinute_13 (nI n) (nI cold) P fuel (nI (pk w 32 6)) (coatI c) (nI fu) (nI (S c)) (nI (pk (aft cold S w c fu) 32 m)) (nI m) = some (nI (pk (aft cold S w c fu) 32 n)) := by
  intro fuel
  induction fuel with
  | zero => intro m h1 h2; omega
  | succ k ih =>
    intro m h1 h2
    show f_X2_afterMinute_13_b (nI n) (nI cold) P (f_X2_afterMinute_13 (nI n) (nI cold) P k) _ _ _ _ _ _ = _
    unfold f_X2_afterMinute_13_b
    by_cases h : m = n
    · subst h
      rw [if_pos (nI_le (Nat.le_refl m) (by omega))]
    · rw [if_neg (nI_ge (by omega) (by omega)), s_warmthOf hw (by omega), ob1_mk]
      have hwm := hw m
      have hSc := hS c
      -- the end of a round, with the new warmth
      have fin : ∀ v : Nat, v = aft cold S w c fu m → f_X2_afterMinute_78 (nI n) (nI cold) P (f_X2_afterMinute_13 (nI n) (nI cold) P k) (nI (pk w 32 6)) (coatI c) (nI fu) (nI (S c)) (nI (pk (aft cold S w c fu) 32 m)) (nI m) (nI v) = some (nI (pk (aft cold S w c fu) 32 n)) := by
        intro v hv
        unfold f_X2_afterMinute_78
        rw [bnd_mk, bnd_mk]
        have hv20 : v ≤ 20 := by rw [hv]; exact aft_le hw c fu m
        have h5 : 32 ^ m ≤ 32 ^ 5 := Nat.pow_le_pow_right (by omega) (by omega)
        rw [show (5 : Int32) = nI 5 from rfl, u_mulz, u_shl (by omega) (by
          rw [Nat.pow_mul, show (2 ^ 5 : Nat) = 32 from rfl]
          have := Nat.mul_le_mul hv20 h5
          omega), Nat.pow_mul]
        have e := pkz_or (w := aft cold S w c fu) (j := 5) (fun m => by have := aft_le (cold := cold) (S := S) hw c fu m; omega) m v
        rw [show (2 ^ 5 : Nat) = 32 from rfl] at e
        rw [show (2 ^ 5 : Nat) = 32 from rfl, e, nI_1]
        have ih' := ih (m + 1) (by omega) (by omega)
        rw [pk_s (aft cold S w c fu) 32 m, ← hv] at ih'
        exact ih'
      -- who does not wear the coat
      have f55 : (w m = 0 ∨ m ≠ c) → f_X2_afterMinute_55 (nI n) (nI cold) P (f_X2_afterMinute_13 (nI n) (nI cold) P k) (nI (pk w 32 6)) (coatI c) (nI fu) (nI (S c)) (nI (pk (aft cold S w c fu) 32 m)) (nI m) (nI (w m)) = some (nI (pk (aft cold S w c fu) 32 n)) := by
        intro hz
        unfold f_X2_afterMinute_55
        rw [bnd_mk, pk_bit hSc (by omega)]
        by_cases b : S c / 2 ^ m % 2 = 0
        · rw [if_pos ((bit01 _).mpr b)]
          have e : (if (0 : Int32) < nI (w m) - nI cold then nI (w m) - nI cold else 0) = nI (w m - cold) := by
            rcases Nat.lt_or_ge cold (w m) with q | q
            · rw [pk_sub (by omega), if_pos (show (0 : Int32) < nI (w m - cold) from nI_lt (a := 0) (by omega) (by omega))]
            · have h0 : (nI (w m) - nI cold).toInt = (w m : Int) - cold := pk_sub_toInt (by omega) (by omega)
              rw [if_neg (by rw [Int32.lt_iff_toInt_lt, h0]; show ¬ (0 : Int) < _; omega), show w m - cold = 0 by omega]
              rfl
          rw [e]
          refine fin _ ?_
          unfold aft
          by_cases z : w m = 0
          · rw [if_pos z]; omega
          · rw [if_neg z, if_neg (hz.resolve_left z), if_neg (by omega)]
        · rw [if_neg (fun h => b ((bit01 _).mp h))]
          refine fin _ ?_
          unfold aft
          by_cases z : w m = 0
          · rw [if_pos z]; exact z
          · rw [if_neg z, if_neg (hz.resolve_left z), if_pos (by omega)]
      by_cases hmc : m = c
      · subst hmc
        have hm6 : m < 6 := by omega
        rw [if_pos (by unfold coatI; rw [if_pos hm6])]
        by_cases z : w m = 0
        · rw [if_pos (by rw [z]; exact Int32.le_refl _)]
          exact f55 (Or.inl z)
        · rw [if_neg (nI_nle (by omega) (by omega))]
          rw [bnd_mk]
          have e : (if nI (w m) + nI fu < 20 then nI (w m) + nI fu else 20) = nI (min 20 (w m + fu)) := by
            rw [nI_add, show (20 : Int32) = nI 20 from rfl]
            rcases Nat.lt_or_ge (w m + fu) 20 with q | q
            · rw [if_pos (nI_lt q (by omega)), Nat.min_eq_right (by omega)]
            · rw [if_neg (nI_nlt q (by omega)), Nat.min_eq_left (by omega)]
          rw [e]
          refine fin _ ?_
          unfold aft
          rw [if_neg z, if_pos rfl]
      · have hne : ¬ nI m = coatI c := by
          unfold coatI
          by_cases q : c < 6
          · rw [if_pos q, nI_eq (by omega) (by omega)]; exact hmc
          · rw [if_neg q]
            intro h9
            have := congrArg Int32.toInt h9
            rw [nI_toInt (by omega)] at this
            have h10 : (-9 : Int32).toInt = -9 := by decide
            omega
        rw [if_neg hne]
        exact f55 (Or.inr hmc)
theorem s_afterMinute {n : Nat} (hn : n ≤ 6) {cold : Nat} (hc : cold ≤ 5) {S w : Nat → Nat} (hS : ∀ m, S m < 64) (h6 : ∀ m, 6 ≤ m → S m = 0) (hw : ∀ m, w m ≤ 20) (hz : ∀ m, n ≤ m → w m = 0) (c : Nat) {fu : Nat} (hf : fu ≤ 5) : f_X2_afterMinute (nI n) (nI cold) (lN (pk S 64 6)) (nI (pk w 32 6)) (coatI c) (nI fu) = some (nI (pk (aft cold S w c fu) 32 6)) := by
  unfold f_X2_afterMinute
  rw [s_secondersOf hS h6, ob1_mk]
  have h := s_aft_loop hn hc hS hw c hf (P := lN (pk S 64 6)) FU 0 (Nat.zero_le n) (by show n - 0 < 20000; omega)
  rw [pkz_ext (w := aft cold S w c fu) 32 (n := n) (fun m hm => aft_zero (hz m hm)) hn]
  exact h
theorem s_sideOf {sd : Nat → Nat} (hs : ∀ m, sd m ≤ 1) {m : Nat} (hm : m < 6) : f_X2_sideOf (nI (pk sd 2 6)) (nI m) = some (nI (sd m)) := by
  unfold f_X2_sideOf
  have h2 : ∀ m, sd m < 2 := fun m => by have := hs m; omega
  rw [pk_bit (pk2_lt64 h2 (Nat.le_refl 6)) hm, pkz_dig sd 2 (by omega) h2 hm]
/-- what can be hoped for: those for it who are awake, less those against it who can't freeze in time -/
def hp1 (w sd : Nat → Nat) (d m : Nat) : Int := if sd m = 1 then (if w m = 0 then 0 else 1) else if d < w m then -1 else 0
theorem hp1_bd (w sd : Nat → Nat) (d m : Nat) : -1 ≤ hp1 w sd d m ∧ hp1 w sd d m ≤ 1 := by unfold hp1; split <;> split <;> omega
theorem s_might_loop {n : Nat} (hn : n ≤ 6) {cold left : Nat} (hc : cold ≤ 5) (hl : left ≤ 5) {w sd : Nat → Nat} (hw : ∀ m, w m ≤ 20) (hs : ∀ m, sd m ≤ 1) : ∀ (fuel m : Nat), m ≤ n → n - m < fuel → f_X2_mightBeCarried_5 (nI n) (nI (pk sd 2 6)) (nI cold) fuel (nI (pk w 32 6)) (nI left) (iI (sI (hp1 w sd (cold * left)) m)) (nI m) = some (if 0 < sI (hp1 w sd (cold * left)) n then 1 else 0) := by
  intro fuel
  induction fuel with
  | zero => intro m h1 h2; omega
  | succ k ih =>
    intro m h1 h2
    show f_X2_mightBeCarried_5_b (nI n) (nI (pk sd 2 6)) (nI cold) (f_X2_mightBeCarried_5 (nI n) (nI (pk sd 2 6)) (nI cold) k) _ _ _ _ = _
    unfold f_X2_mightBeCarried_5_b
    have hb := sI_bd (hp1_bd w sd (cold * left)) m
    have hcl : cold * left ≤ 25 := Nat.mul_le_mul hc hl
    by_cases h : m = n
    · subst h
      rw [if_pos (nI_le (Nat.le_refl m) (by omega)), show (0 : Int32) = iI 0 from rfl]
      by_cases c : 0 < sI (hp1 w sd (cold * left)) m
      · rw [if_pos c, if_neg (fun q => by rw [iI_le (by omega) (by omega) (by omega) (by omega)] at q; omega)]
      · rw [if_neg c, if_pos ((iI_le (by omega) (by omega) (by omega) (by omega)).mpr (by omega))]
    · rw [if_neg (nI_ge (by omega) (by omega)), s_sideOf hs (by omega), ob1_mk]
      have ih' := ih (m + 1) (by omega) (by omega)
      rw [sI] at ih'
      have hwm := hw m
      have hsm := hs m
      unfold f_X2_mightBeCarried_39 f_X2_mightBeCarried_62
      simp only [bnd_mk]
      by_cases s1 : sd m = 1
      · rw [s1, if_pos (show nI 1 = 1 from rfl), s_isFrozen hw (by omega), ob1_mk, nI_1]
        by_cases z : w m = 0
        · have e : hp1 w sd (cold * left) m = 0 := by unfold hp1; rw [if_pos s1, if_pos z]
          rw [if_pos z, if_neg (by decide), show (0 : Int32) = iI 0 from rfl, iI_add (by omega) (by omega) (by omega) (by omega)]
          rw [e] at ih'
          exact ih'
        · have e : hp1 w sd (cold * left) m = 1 := by unfold hp1; rw [if_pos s1, if_neg z]
          rw [if_neg z, if_pos rfl, show (1 : Int32) = iI 1 from rfl, iI_add (by omega) (by omega) (by omega) (by omega)]
          rw [e] at ih'
          exact ih'
      · rw [if_neg (by rw [show sd m = 0 by omega]; decide), s_warmthOf hw (by omega), ob1_mk, u_mulz, nI_1]
        rcases Nat.lt_or_ge (cold * left) (w m) with q | q
        · have e : hp1 w sd (cold * left) m = -1 := by unfold hp1; rw [if_neg s1, if_pos q]
          rw [if_neg (nI_ge q (by omega)), show (-1 : Int32) = iI (-1) from rfl, iI_add (by omega) (by omega) (by omega) (by omega)]
          rw [e] at ih'
          exact ih'
        · have e : hp1 w sd (cold * left) m = 0 := by unfold hp1; rw [if_neg s1, if_neg (by omega)]
          rw [if_pos (nI_le q (by omega))]
          rw [e, Int.add_zero] at ih'
          exact ih'
theorem s_might {n : Nat} (hn : n ≤ 6) {cold left : Nat} (hc : cold ≤ 5) (hl : left ≤ 5) {w sd : Nat → Nat} (hw : ∀ m, w m ≤ 20) (hs : ∀ m, sd m ≤ 1) : f_X2_mightBeCarried (nI n) (nI (pk sd 2 6)) (nI cold) (nI (pk w 32 6)) (nI left) = some (if 0 < sI (hp1 w sd (cold * left)) n then 1 else 0) :=
  s_might_loop hn hc hl hw hs FU 0 (Nat.zero_le n) (by show n - 0 < 20000; omega)
