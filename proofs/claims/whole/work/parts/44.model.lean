/-! the reference's minute -/
theorem ing_ok {β : Type} {i : Int32} {n : Nat} {x : Option β} (h : ¬ (i < 0 ∨ n ≤ i.toNatClampNeg)) : ing i n x = x := if_neg h
theorem ing_nI {β : Type} {m n : Nat} {x : Option β} (h : m < n) (hn : n < 2 ^ 31) : ing (nI m) n x = x := ing_ok (nI_in h hn)
theorem nzg_ok {β : Type} {y : Int32} {x : Option β} (h : ¬ y = 0) : nzg y x = x := if_neg h
theorem zbg_01 {β : Type} {y : Int32} {x : Option β} (h : y = 0 ∨ y = 1) : zbg y x = x := if_pos h
theorem ing6 {β : Type} {x : Option β} : ing 6 10 x = x := ing_ok (by decide)
theorem ing7 {β : Type} {x : Option β} : ing 7 10 x = x := ing_ok (by decide)
theorem ing8 {β : Type} {x : Option β} : ing 8 10 x = x := ing_ok (by decide)
theorem ing9 {β : Type} {x : Option β} : ing 9 10 x = x := ing_ok (by decide)
theorem cl6 : (6 : Int32).toNatClampNeg = 6 := by decide
theorem cl7 : (7 : Int32).toNatClampNeg = 7 := by decide
theorem cl8 : (8 : Int32).toNatClampNeg = 8 := by decide
theorem cl9 : (9 : Int32).toNatClampNeg = 9 := by decide
theorem upd_s {f : Nat → Int32} {k : Nat} {x : Int32} : upd f k x k = x := pk_us
theorem upd_n {f : Nat → Int32} {k j : Nat} {x : Int32} (h : j ≠ k) : upd f k x j = f j := pk_un h
theorem coatI_lt {c : Nat} (h : c < 6) : coatI c = nI c := if_pos h
theorem coatI_ne9 {c : Nat} (h : c < 6) : ¬ coatI c = -9 := by
  rw [coatI_lt h]
  intro h9
  have h1 := congrArg Int32.toInt h9
  rw [nI_toInt (by omega)] at h1
  have h10 : (-9 : Int32).toInt = -9 := by decide
  omega
theorem coatI_eq {m c : Nat} (hm : m < 6) : nI m = coatI c ↔ m = c := by
  unfold coatI
  by_cases q : c < 6
  · rw [if_pos q, nI_eq (by omega) (by omega)]
  · rw [if_neg q]
    constructor
    · intro h9
      have h1 := congrArg Int32.toInt h9
      rw [nI_toInt (by omega)] at h1
      have h10 : (-9 : Int32).toInt = -9 := by decide
      omega
    · intro h; omega
/-- what one is, in a minute, by the reference -/
theorem s_warmed {cold : Nat} (hc : cold ≤ 5) {S w : Nat → Nat} (hS : ∀ m, S m < 64) {c : Nat} (h6 : ∀ m, 6 ≤ m → S m = 0) {yq : Nat → Int32} (hy : c < 6 → yq c = nI (S c)) (hw : ∀ m, w m ≤ 20) {fu : Nat} (hf : fu ≤ 5) {m : Nat} (hm : m < 6) : f_X8_warmed (nI cold) yq (nI m) (nI (w m)) (coatI c) (nI fu) = some (nI (aft cold S w c fu m)) := by
  unfold f_X8_warmed
  have hwm := hw m
  by_cases z : w m = 0
  · rw [if_pos (by rw [z]; rfl), aft_zero z]
    rfl
  · rw [if_neg (nI_ne0 (by omega) (by omega))]
    by_cases e : m = c
    · rw [if_pos ((coatI_eq hm).mpr e), nI_add, show (20 : Int32) = nI 20 from rfl]
      have ea : aft cold S w c fu m = min 20 (w m + fu) := by unfold aft; rw [if_neg z, if_pos e]
      rw [ea]
      rcases Nat.lt_or_ge 20 (w m + fu) with q | q
      · rw [if_neg (nI_ge q (by omega)), Nat.min_eq_left (by omega)]
      · rw [if_pos (nI_le q (by omega)), Nat.min_eq_right (by omega)]
    · rw [if_neg (fun h => e ((coatI_eq hm).mp h))]
      -- the two ends
      have f54 : S c / 2 ^ m % 2 = 0 → f_X8_warmed_54 (nI cold) yq (nI (w m)) = some (nI (aft cold S w c fu m)) := by
        intro b
        have ea : aft cold S w c fu m = w m - cold := by unfold aft; rw [if_neg z, if_neg e, if_neg (by omega)]
        rw [ea]
        unfold f_X8_warmed_54 f_X8_warmed_55 f_X8_warmed_72
        rw [if_pos rfl]
        rcases Nat.lt_or_ge (w m) cold with q | q
        · have h0 : (nI (w m) - nI cold).toInt = (w m : Int) - cold := pk_sub_toInt (by omega) (by omega)
          rw [if_neg (by rw [Int32.le_iff_toInt_le, h0]; show ¬ (0 : Int) ≤ _; omega), show w m - cold = 0 by omega]
          rfl
        · rw [pk_sub q, if_pos (nI_pos' (by omega))]
      by_cases hc6 : c < 6
      · rw [if_neg (coatI_ne9 hc6), coatI_lt hc6, ing_nI (by omega) (by omega), nI_clamp (by omega), hy hc6, pk_bit (hS c) hm]
        by_cases b : S c / 2 ^ m % 2 = 0
        · rw [if_neg (by rw [b]; decide)]
          exact f54 b
        · have b1 : S c / 2 ^ m % 2 = 1 := by omega
          rw [if_pos (by rw [b1]; rfl)]
          have ea : aft cold S w c fu m = w m := by unfold aft; rw [if_neg z, if_neg e, if_pos b1]
          rw [ea]
          unfold f_X8_warmed_55 f_X8_warmed_72
          rw [if_neg (by decide), if_pos (nI_pos' (by omega))]
      · rw [if_pos (show coatI c = -9 from if_neg hc6)]
        exact f54 (by rw [h6 c (by omega)]; simp)
/-- the reference's row of the moment -/
def SRow (s : Nat → Int32) (w : Nat → Nat) (c fu : Nat) : Prop := (∀ m, m < 6 → s m = nI (w m)) ∧ s 6 = coatI c ∧ s 7 = nI fu
theorem s_passes_loop {n : Nat} (hn : n ≤ 6) {cold : Nat} (hc : cold ≤ 5) {S w : Nat → Nat} (hS : ∀ m, S m < 64) (h6 : ∀ m, 6 ≤ m → S m = 0) {c : Nat} {yq : Nat → Int32} (hy : c < 6 → yq c = nI (S c)) (hw : ∀ m, w m ≤ 20) (hz : ∀ m, n ≤ m → w m = 0) {fu : Nat} (hf : fu ≤ 5) (s0 : Nat → Int32) : ∀ (fuel m : Nat) (s : Nat → Int32), m ≤ n → n - m < fuel → (∀ j, j < m → s j = nI (aft cold S w c fu j)) → (∀ j, m ≤ j → j < 6 → s j = nI (w j)) → s 6 = coatI c → s 7 = nI fu → s 8 = s0 8 → s 9 = s0 9 → ∃ s', f_X8_passes_2 (nI n) (nI cold) yq fuel (nI m) s = some s' ∧ SRow s' (aft cold S w c fu) c fu ∧ s' 8 = s0 8 + 1 ∧ s' 9 = s0 9 := by
  intro fuel
  induction fuel with
  | zero => intro m s h1 h2; omega
  | succ k ih =>
    intro m s h1 h2 ha hb s6 s7 s8 s9
    show ∃ s', f_X8_passes_2_b (nI n) (nI cold) yq (f_X8_passes_2 (nI n) (nI cold) yq k) _ _ = some s' ∧ _
    unfold f_X8_passes_2_b
    by_cases h : m = n
    · subst h
      rw [if_pos (nI_le (Nat.le_refl m) (by omega)), ing8, ing8, bnd_mk, cl8]
      refine ⟨_, rfl, ⟨fun j hj => ?_, ?_, ?_⟩, ?_, ?_⟩
      · rw [upd_n (by omega)]
        rcases Nat.lt_or_ge j m with q | q
        · exact ha j q
        · rw [hb j q hj, hz j q, aft_zero (hz j q)]
      · rw [upd_n (by omega)]; exact s6
      · rw [upd_n (by omega)]; exact s7
      · rw [upd_s, s8]
      · rw [upd_n (by omega)]; exact s9
    · rw [if_neg (nI_ge (by omega) (by omega)), ing_nI (by omega) (by omega), ing6, ing7, cl6, cl7, nI_clamp (by omega), hb m (Nat.le_refl m) (by omega), s6, s7, s_warmed hc hS h6 hy hw hf (by omega), ob1_mk, ing_nI (by omega) (by omega), bnd_mk, bnd_mk, nI_1]
      refine ih (m + 1) _ (by omega) (by omega) (fun j hj => ?_) (fun j hj hj6 => ?_) ?_ ?_ ?_ ?_
      · by_cases e : j = m
        · subst e; rw [upd_s]
        · rw [upd_n e]; exact ha j (by omega)
      · rw [upd_n (by omega)]; exact hb j (by omega) hj6
      · rw [upd_n (by omega)]; exact s6
      · rw [upd_n (by omega)]; exact s7
      · rw [upd_n (by omega)]; exact s8
      · rw [upd_n (by omega)]; exact s9
theorem s_passes {n : Nat} (hn : n ≤ 6) {cold : Nat} (hc : cold ≤ 5) {S w : Nat → Nat} (hS : ∀ m, S m < 64) (h6 : ∀ m, 6 ≤ m → S m = 0) {c : Nat} {yq : Nat → Int32} (hy : c < 6 → yq c = nI (S c)) (hw : ∀ m, w m ≤ 20) (hz : ∀ m, n ≤ m → w m = 0) {fu : Nat} (hf : fu ≤ 5) {s : Nat → Int32} (hs : SRow s w c fu) : ∃ s', f_X8_passes (nI n) (nI cold) yq s = some s' ∧ SRow s' (aft cold S w c fu) c fu ∧ s' 8 = s 8 + 1 ∧ s' 9 = s 9 :=
  s_passes_loop hn hc hS h6 hy hw hz hf s FU 0 s (Nat.zero_le n) (by show n - 0 < 20000; omega) (fun j hj => absurd hj (Nat.not_lt_zero j)) (fun j _ hj => hs.1 j hj) hs.2.1 hs.2.2 rfl rfl
theorem s_frozenNow_loop {n : Nat} (hn : n ≤ 6) {w : Nat → Nat} (hw : ∀ m, w m ≤ 20) {s : Nat → Int32} (hs : ∀ m, m < 6 → s m = nI (w m)) : ∀ (fuel m : Nat), m ≤ n → n - m < fuel → f_X8_frozenNow_4 (nI n) s fuel (nI (pk (fzb w) 2 m)) (nI m) = some (nI (pk (fzb w) 2 n)) := by
  intro fuel
  induction fuel with
  | zero => intro m h1 h2; omega
  | succ k ih =>
    intro m h1 h2
    show f_X8_frozenNow_4_b (nI n) s (f_X8_frozenNow_4 (nI n) s k) _ _ = _
    unfold f_X8_frozenNow_4_b
    by_cases h : m = n
    · subst h
      rw [if_pos (nI_le (Nat.le_refl m) (by omega))]
    · have hwm := hw m
      rw [if_neg (nI_ge (by omega) (by omega)), ing_nI (by omega) (by omega), nI_clamp (by omega), hs m (by omega)]
      have ih' := ih (m + 1) (by omega) (by omega)
      rw [pk_s (fzb w) 2 m] at ih'
      have e := pkz_or (w := fzb w) (j := 1) (fun m => fzb_lt w m) m
      rw [show (2 ^ 1 : Nat) = 2 from rfl] at e
      unfold f_X8_frozenNow_29
      by_cases hz : w m = 0
      · have hm6 : 2 ^ m ≤ 2 ^ 6 := Nat.pow_le_pow_right (by omega) (by omega)
        rw [if_pos (by rw [hz]; rfl), bnd_mk, bnd_mk, show (1 : Int32) = nI 1 from rfl, u_shl (by omega) (by omega), nI_add, e 1]
        rw [show fzb w m = 1 by unfold fzb; rw [if_pos hz]] at ih'
        exact ih'
      · rw [if_neg (nI_ne0 (by omega) (by omega)), bnd_mk, bnd_mk, nI_1]
        have e0 := e 0
        rw [Nat.zero_mul, show nI 0 = 0 from rfl] at e0
        rw [e0]
        rw [show fzb w m = 0 by unfold fzb; rw [if_neg hz], Nat.zero_mul] at ih'
        exact ih'
theorem s_frozenNow {n : Nat} (hn : n ≤ 6) {w : Nat → Nat} (hw : ∀ m, w m ≤ 20) {s : Nat → Int32} (hs : ∀ m, m < 6 → s m = nI (w m)) : f_X8_frozenNow (nI n) s = some (nI (pk (fzb w) 2 n)) :=
  s_frozenNow_loop hn hw hs FU 0 (Nat.zero_le n) (by show n - 0 < 20000; omega)
theorem s_ones : ∀ K, K < 64 → f_X8_ones (nI K) = some (nI (cnt6 K)) := by decide +kernel
theorem s_in (p a b : Int32) : f_X8_in p a b = some (if a ≤ p ∧ p ≤ b then 1 else 0) := by
  unfold f_X8_in
  by_cases h1 : p < a
  · rw [if_pos h1, if_neg (fun h => absurd (Int32.lt_iff_toInt_lt.mp h1) (by have := Int32.le_iff_toInt_le.mp h.1; omega))]
  · rw [if_neg h1]
    have h1' : a ≤ p := by rw [Int32.le_iff_toInt_le]; rw [Int32.lt_iff_toInt_lt] at h1; omega
    by_cases h2 : b < p
    · rw [if_pos h2, if_neg (fun h => absurd (Int32.lt_iff_toInt_lt.mp h2) (by have := Int32.le_iff_toInt_le.mp h.2; omega))]
    · rw [if_neg h2]
      have h2' : p ≤ b := by rw [Int32.le_iff_toInt_le]; rw [Int32.lt_iff_toInt_lt] at h2; omega
      rw [if_pos ⟨h1', h2'⟩]
/-- votes on a board -/
theorem s_lead_loop {n : Nat} (hn : n ≤ 6) {w sd : Nat → Nat} (hw : ∀ m, w m ≤ 20) {ys board : Nat → Int32} (hs : ∀ m, m < n → sd m ≤ 1 ∧ ys m = nI (sd m)) {a : Nat} (ha : a ≤ 42) (hb : ∀ m, m < 6 → board (a + m) = nI (w m)) : ∀ (fuel m : Nat), m ≤ n → n - m < fuel → f_X8_lead_4 (nI n) ys board fuel (nI a) (iI (sI (vt w sd) m)) (nI m) = some (iI (sI (vt w sd) n)) := by
  intro fuel
  induction fuel with
  | zero => intro m h1 h2; omega
  | succ k ih =>
    intro m h1 h2
    show f_X8_lead_4_b (nI n) ys board (f_X8_lead_4 (nI n) ys board k) _ _ _ = _
    unfold f_X8_lead_4_b
    by_cases h : m = n
    · subst h
      rw [if_pos (nI_le (Nat.le_refl m) (by omega))]
    · have hwm := hw m
      have hbd := sI_bd (vt_bd w sd) m
      have hv := vt_bd w sd m
      rw [if_neg (nI_ge (by omega) (by omega)), nI_add, ing_nI (by omega) (by omega), nI_clamp (by omega), hb m (by omega)]
      have ih' := ih (m + 1) (by omega) (by omega)
      rw [sI] at ih'
      unfold f_X8_lead_43
      by_cases z : w m = 0
      · have e : vt w sd m = 0 := by unfold vt; rw [if_pos z]
        rw [if_pos (by rw [z]; rfl), bnd_mk, bnd_mk, show (0 : Int32) = iI 0 from rfl, iI_add (by omega) (by omega) (by omega) (by omega), nI_1]
        rw [e] at ih'
        exact ih'
      · obtain ⟨hs1, hs2⟩ := hs m (by omega)
        rw [if_neg (nI_ne0 (by omega) (by omega)), ing_nI (by omega) (by omega), nI_clamp (by omega), hs2]
        by_cases s1 : sd m = 1
        · have e : vt w sd m = 1 := by unfold vt; rw [if_neg z, if_pos s1]
          rw [if_pos (by rw [s1]; rfl), bnd_mk, bnd_mk, show iI (sI (vt w sd) m) + 1 = iI (sI (vt w sd) m) + iI 1 from rfl, iI_add (by omega) (by omega) (by omega) (by omega), nI_1]
          rw [e] at ih'
          exact ih'
        · have e : vt w sd m = -1 := by unfold vt; rw [if_neg z, if_neg s1]
          rw [if_neg (by rw [show sd m = 0 by omega]; decide), bnd_mk, bnd_mk, show (-1 : Int32) = iI (-1) from rfl, iI_add (by omega) (by omega) (by omega) (by omega), nI_1]
          rw [e] at ih'
          exact ih'
theorem s_lead {n : Nat} (hn : n ≤ 6) {w sd : Nat → Nat} (hw : ∀ m, w m ≤ 20) {ys board : Nat → Int32} (hs : ∀ m, m < n → sd m ≤ 1 ∧ ys m = nI (sd m)) {a : Nat} (ha : a ≤ 42) (hb : ∀ m, m < 6 → board (a + m) = nI (w m)) : f_X8_lead (nI n) ys board (nI a) = some (iI (sI (vt w sd) n)) :=
  s_lead_loop hn hw hs ha hb FU 0 (Nat.zero_le n) (by show n - 0 < 20000; omega)
theorem lead_le {w sd : Nat → Nat} {n : Nat} (hn : n ≤ 6) : iI (sI (vt w sd) n) ≤ 0 ↔ ¬ 0 < sI (vt w sd) n := by
  have hbd := sI_bd (vt_bd w sd) n
  rw [show (0 : Int32) = iI 0 from rfl, iI_le (by omega) (by omega) (by omega) (by omega)]
  omega
theorem s_awake_loop {n : Nat} (hn : n ≤ 6) {w : Nat → Nat} (hw : ∀ m, w m ≤ 20) {board : Nat → Int32} {a : Nat} (ha : a ≤ 42) (hb : ∀ m, m < 6 → board (a + m) = nI (w m)) : ∀ (fuel m : Nat), m ≤ n → n - m < fuel → f_X8_awake_4 (nI n) board fuel (nI a) (nI (sN (awb w) m)) (nI m) = some (nI (sN (awb w) n)) := by
  intro fuel
  induction fuel with
  | zero => intro m h1 h2; omega
  | succ k ih =>
    intro m h1 h2
    show f_X8_awake_4_b (nI n) board (f_X8_awake_4 (nI n) board k) _ _ _ = _
    unfold f_X8_awake_4_b
    by_cases h : m = n
    · subst h
      rw [if_pos (nI_le (Nat.le_refl m) (by omega))]
    · have hwm := hw m
      rw [if_neg (nI_ge (by omega) (by omega)), nI_add, ing_nI (by omega) (by omega), nI_clamp (by omega), hb m (by omega)]
      have ih' := ih (m + 1) (by omega) (by omega)
      rw [sN] at ih'
      unfold f_X8_awake_29
      by_cases z : w m = 0
      · have e : awb w m = 0 := by unfold awb; rw [if_pos z]
        rw [if_pos (by rw [z]; exact Int32.le_refl _), bnd_mk, bnd_mk, show nI (sN (awb w) m) + 0 = nI (sN (awb w) m) + nI 0 from rfl, nI_add, nI_1]
        rw [e] at ih'
        exact ih'
      · have e : awb w m = 1 := by unfold awb; rw [if_neg z]
        rw [if_neg (nI_nle (by omega) (by omega)), bnd_mk, bnd_mk, show nI (sN (awb w) m) + 1 = nI (sN (awb w) m) + nI 1 from rfl, nI_add, nI_1]
        rw [e] at ih'
        exact ih'
theorem s_awake {n : Nat} (hn : n ≤ 6) {w : Nat → Nat} (hw : ∀ m, w m ≤ 20) {board : Nat → Int32} {a : Nat} (ha : a ≤ 42) (hb : ∀ m, m < 6 → board (a + m) = nI (w m)) : f_X8_awake (nI n) board (nI a) = some (nI (sN (awb w) n)) :=
  s_awake_loop hn hw ha hb FU 0 (Nat.zero_le n) (by show n - 0 < 20000; omega)
theorem s_setsBoard_loop {s : Nat → Int32} (b0 : Nat → Int32) : ∀ (fuel m : Nat) (b : Nat → Int32), m ≤ 7 → 7 - m < fuel → (∀ j, j < m → b j = s j) → ∃ b', f_X8_setsBoard_2 s fuel (nI m) b = some b' ∧ ∀ j, j < 7 → b' j = s j := by
  intro fuel
  induction fuel with
  | zero => intro m b h1 h2; omega
  | succ k ih =>
    intro m b h1 h2 hb
    show ∃ b', f_X8_setsBoard_2_b s (f_X8_setsBoard_2 s k) _ _ = some b' ∧ _
    unfold f_X8_setsBoard_2_b
    by_cases h : m = 7
    · subst h
      rw [if_pos (by decide)]
      exact ⟨b, rfl, hb⟩
    · rw [show (7 : Int32) = nI 7 from rfl, if_neg (nI_ge (by omega) (by omega)), ing_nI (by omega) (by omega), ing_nI (by omega) (by omega), bnd_mk, bnd_mk, nI_clamp (by omega), nI_1]
      refine ih (m + 1) _ (by omega) (by omega) (fun j hj => ?_)
      by_cases e : j = m
      · subst e; rw [upd_s]
      · rw [upd_n e]; exact hb j (by omega)
theorem s_setsBoard (s b : Nat → Int32) : ∃ b', f_X8_setsBoard s b = some b' ∧ ∀ j, j < 7 → b' j = s j :=
  s_setsBoard_loop b FU 0 b (Nat.zero_le 7) (by decide) (fun j hj => absurd hj (Nat.not_lt_zero j))
/-- a row of the board -/
def BRow (b : Nat → Int32) (d : Nat) (w : Nat → Nat) (c : Nat) : Prop := (∀ m, m < 6 → b (7 * d + m) = nI (w m)) ∧ b (7 * d + 6) = coatI c
theorem s_goes_loop {n : Nat} (hn : n ≤ 6) {cold : Nat} (hc : cold ≤ 5) {S w : Nat → Nat} (hS : ∀ m, S m < 64) (h6 : ∀ m, 6 ≤ m → S m = 0) {c : Nat} {yq : Nat → Int32} (hy : c < 6 → yq c = nI (S c)) (hw : ∀ m, w m ≤ 20) (hz : ∀ m, n ≤ m → w m = 0) {fu : Nat} (hf : fu ≤ 5) {d : Nat} (hd : d ≤ 5) (b0 : Nat → Int32) (hb0 : ∀ m, m < 6 → b0 (7 * d + m) = nI (w m)) : ∀ (fuel m : Nat) (b : Nat → Int32), m ≤ 6 → 6 - m < fuel → (∀ j, j < 7 * (d + 1) → b j = b0 j) → (∀ j, j < m → b (7 * (d + 1) + j) = nI (aft cold S w c fu j)) → ∃ b', f_X8_goes_30 (nI n) (nI cold) yq fuel (nI (7 * d)) (nI fu) (nI (7 * (d + 1))) (coatI c) (nI m) b = some b' ∧ BRow b' (d + 1) (aft cold S w c fu) c ∧ ∀ j, j < 7 * (d + 1) → b' j = b0 j := by
  intro fuel
  induction fuel with
  | zero => intro m b h1 h2; omega
  | succ k ih =>
    intro m b h1 h2 hlo hb
    show ∃ b', f_X8_goes_30_b (nI n) (nI cold) yq (f_X8_goes_30 (nI n) (nI cold) yq k) _ _ _ _ _ _ = some b' ∧ _
    unfold f_X8_goes_30_b
    by_cases h : m = 6
    · subst h
      rw [if_pos (by decide), show nI (7 * (d + 1)) + 6 = nI (7 * (d + 1)) + nI 6 from rfl, nI_add, ing_nI (by omega) (by omega), bnd_mk, nI_clamp (by omega)]
      refine ⟨_, rfl, ⟨fun j hj => ?_, ?_⟩, fun j hj => ?_⟩
      · rw [upd_n (by omega)]; exact hb j hj
      · rw [upd_s]
      · rw [upd_n (by omega)]; exact hlo j hj
    · have fin : f_X8_goes_77 (nI n) (nI cold) yq (f_X8_goes_30 (nI n) (nI cold) yq k) (nI (7 * d)) (nI fu) (nI (7 * (d + 1))) (coatI c) (nI m) (nI (7 * (d + 1)) + nI m) (nI (aft cold S w c fu m)) b = f_X8_goes_30 (nI n) (nI cold) yq k (nI (7 * d)) (nI fu) (nI (7 * (d + 1))) (coatI c) (nI (m + 1)) (upd b (7 * (d + 1) + m) (nI (aft cold S w c fu m))) := by
        unfold f_X8_goes_77
        rw [nI_add, ing_nI (by omega) (by omega), bnd_mk, bnd_mk, nI_clamp (by omega), nI_1]
      have go := ih (m + 1) (upd b (7 * (d + 1) + m) (nI (aft cold S w c fu m))) (by omega) (by omega) (fun j hj => by rw [upd_n (by omega)]; exact hlo j hj) (fun j hj => by
        by_cases e : j = m
        · subst e; rw [upd_s]
        · rw [upd_n (by omega)]; exact hb j (by omega))
      rw [← fin] at go
      rw [show (6 : Int32) = nI 6 from rfl, if_neg (nI_ge (by omega) (by omega))]
      by_cases hmn : n ≤ m
      · rw [if_pos (nI_le hmn (by omega))]
        rw [aft_zero (hz m hmn)] at go
        exact go
      · rw [if_neg (nI_ge (by omega) (by omega)), nI_add (7 * d) m, ing_nI (by omega) (by omega), nI_clamp (by omega), hlo _ (by omega), hb0 m (by omega), s_warmed hc hS h6 hy hw hf (by omega), ob1_mk]
        exact go
/-- a minute from a row to the next: by whom -/
theorem s_goes {n : Nat} (hn : n ≤ 6) {cold : Nat} (hc : cold ≤ 5) {S w : Nat → Nat} (hS : ∀ m, S m < 64) (h6 : ∀ m, 6 ≤ m → S m = 0) {c : Nat} {yq : Nat → Int32} (hy : c < 6 → yq c = nI (S c)) (hw : ∀ m, w m ≤ 20) (hz : ∀ m, n ≤ m → w m = 0) {fu : Nat} (hf : fu ≤ 5) {d : Nat} (hd : d ≤ 5) {b : Nat → Int32} {c0 : Nat} (hb : BRow b d w c0) (who : Int32) (hwho : (who = -9 ∧ c = c0) ∨ (who = nI c ∧ c < 6)) : ∃ b', f_X8_goes (nI n) (nI cold) yq b (nI (7 * d)) who (nI fu) = some b' ∧ BRow b' (d + 1) (aft cold S w c fu) c ∧ ∀ j, j < 7 * (d + 1) → b' j = b j := by
  unfold f_X8_goes
  have e7 : nI (7 * d) + 7 = nI (7 * (d + 1)) := by rw [show (7 : Int32) = nI 7 from rfl, nI_add]; exact nIe (by omega)
  rw [bnd_mk, e7]
  have go := s_goes_loop hn hc hS h6 hy hw hz hf hd b hb.1 FU 0 b (Nat.zero_le 6) (by decide) (fun j _ => rfl) (fun j hj => absurd hj (Nat.not_lt_zero j))
  rcases hwho with ⟨e1, e2⟩ | ⟨e1, e2⟩
  · subst e2
    rw [if_pos e1, show nI (7 * d) + 6 = nI (7 * d) + nI 6 from rfl, nI_add, ing_nI (by omega) (by omega), nI_clamp (by omega), hb.2]
    unfold f_X8_goes_25
    exact go
  · rw [e1, if_neg (by rw [← coatI_lt e2]; exact coatI_ne9 e2), ← coatI_lt e2]
    unfold f_X8_goes_25
    exact go
theorem s_power_loop {n : Nat} (hn : n ≤ 6) {k : Nat} (hk : k ≤ 5) : ∀ (fuel j : Nat), j ≤ k → k - j < fuel → f_X8_power_4 fuel (nI n) (nI k) (nI (n ^ j)) (nI j) = some (nI (n ^ k)) := by
  intro fuel
  induction fuel with
  | zero => intro j h1 h2; omega
  | succ f ih =>
    intro j h1 h2
    show f_X8_power_4_b (f_X8_power_4 f) _ _ _ _ = _
    unfold f_X8_power_4_b
    by_cases h : j = k
    · subst h
      rw [if_pos (nI_le (Nat.le_refl j) (by omega))]
    · rw [if_neg (nI_ge (by omega) (by omega)), bnd_mk, bnd_mk, u_mulz, nI_1, ← Nat.pow_succ]
      exact ih (j + 1) (by omega) (by omega)
theorem s_power {n : Nat} (hn : n ≤ 6) {k : Nat} (hk : k ≤ 5) : f_X8_power (nI n) (nI k) = some (nI (n ^ k)) :=
  s_power_loop hn hk FU 0 (Nat.zero_le k) (by show k - 0 < 20000; omega)
theorem pow_small {n k : Nat} (hn : n ≤ 6) (hk : k ≤ 5) : n ^ k ≤ 7776 := by
  have h1 : n ^ k ≤ 6 ^ k := Nat.pow_le_pow_left hn k
  have h2 : 6 ^ k ≤ 6 ^ 5 := Nat.pow_le_pow_right (by omega) hk
  omega
theorem s_plans {n : Nat} (hn : n ≤ 6) {k : Nat} (hk : k ≤ 5) : f_X8_plans (nI n) (nI k) = some (nI (n ^ k)) := by
  unfold f_X8_plans f_X8_plans_15
  by_cases z : n = 0
  · subst z
    rw [if_pos (show nI 0 = 0 from rfl)]
    by_cases y : k = 0
    · subst y
      rw [if_pos (show nI 0 ≤ 0 from Int32.le_refl _), s_power (by omega) (by omega), ob1_mk]
    · rw [if_neg (nI_nle (by omega) (by omega)), Nat.zero_pow (by omega)]
      rfl
  · rw [if_neg (nI_ne0 (by omega) (by omega)), s_power hn hk, ob1_mk]
