def anyB (f : Nat → Bool) : Nat → Bool
  | 0 => false
  | m + 1 => anyB f m || f m
theorem anyB_iff {f : Nat → Bool} : ∀ {n : Nat}, anyB f n = true ↔ ∃ m, m < n ∧ f m = true
  | 0 => ⟨fun h => Bool.noConfusion (show false = true from h), fun ⟨m, h, _⟩ => absurd h (Nat.not_lt_zero m)⟩
  | n + 1 => by
    rw [anyB, Bool.or_eq_true, anyB_iff (n := n)]
    refine ⟨fun h => ?_, fun ⟨m, h1, h2⟩ => ?_⟩
    · rcases h with ⟨m, h1, h2⟩ | h
      · exact ⟨m, by omega, h2⟩
      · exact ⟨n, by omega, h⟩
    · by_cases q : m = n
      · exact Or.inr (q ▸ h2)
      · exact Or.inl ⟨m, by omega, h2⟩
section
variable {n cold fu : Nat} {S sd : Nat → Nat}
/-- who may speak for the side s -/
def opb (sd w : Nat → Nat) (s m : Nat) : Bool := sd m == s && !(w m == 0)
theorem opb_iff {w : Nat → Nat} {s m : Nat} : opb sd w s m = true ↔ sd m = s ∧ w m ≠ 0 := by
  simp [opb]
/-- who wins with k minutes to go, when it is the turn of the side s -/
def gv (n cold : Nat) (S : Nat → Nat) (fu : Nat) (sd : Nat → Nat) : Nat → (Nat → Nat) → Nat → Nat → Nat
  | 0, w, _, _ => if 0 < sI (vt w sd) n then 1 else 0
  | k + 1, w, c, s => if anyB (opb sd w s) n = true then (if anyB (fun m => opb sd w s m && gv n cold S fu sd k (aft cold S w m fu) m (1 - s) == s) n = true then s else 1 - s) else gv n cold S fu sd k (aft cold S w c fu) c (1 - s)
theorem gv_le : ∀ (k : Nat) (w : Nat → Nat) (c s : Nat), s ≤ 1 → gv n cold S fu sd k w c s ≤ 1
  | 0, w, c, s, h => by rw [gv]; split <;> omega
  | k + 1, w, c, s, h => by
    rw [gv]
    split
    · split <;> omega
    · exact gv_le k _ _ _ (by omega)
theorem bit_s {s : Nat} (h : s ≤ 1) : s = 0 ∨ s = 1 := by omega
theorem one_sub {s : Nat} (h : s ≤ 1) : (1 : Int32) - nI s = nI (1 - s) := by
  rcases bit_s h with rfl | rfl <;> rfl
theorem zbg_nI {β : Type} {g : Nat} (h : g ≤ 1) {x : Option β} : zbg (nI g) x = x := zbg_01 (by rcases bit_s h with rfl | rfl; exact Or.inl rfl; exact Or.inr rfl)
theorem s_winning (hn : n ≤ 6) (hc : cold ≤ 5) (hS : ∀ m, S m < 64) (h6 : ∀ m, 6 ≤ m → S m = 0) (hs : ∀ m, sd m ≤ 1) (hf : fu ≤ 5) : ∀ (k : Nat), k ≤ 5 → ∀ (fuel : Nat) (w : Nat → Nat) (c s : Nat), k < fuel → s ≤ 1 → (∀ m, w m ≤ 20) → (∀ m, n ≤ m → w m = 0) → f_X4_winning fuel (nI n) (nI (pk sd 2 6)) (nI cold) (lN (pk S 64 6)) (nI (pk w 32 6)) (coatI c) (nI fu) (nI s) (nI k) = some (nI (gv n cold S fu sd k w c s)) := by
  intro k
  induction k with
  | zero =>
    intro hk fuel w c s hfu h1 hw hz
    obtain ⟨fuel, rfl⟩ : ∃ f, fuel = f + 1 := ⟨fuel - 1, by omega⟩
    show f_X4_winning_b (f_X4_winning fuel) _ _ _ _ _ _ _ _ _ = _
    unfold f_X4_winning_b
    rw [if_neg (show ¬ (0 : Int32) < nI 0 by decide), s_isCarried hn hw hs, ob1_mk, gv]
    by_cases q : 0 < sI (vt w sd) n
    · rw [if_pos q, if_pos q, zbg_01 (Or.inr rfl)]; rfl
    · rw [if_neg q, if_neg q, zbg_01 (Or.inl rfl)]; rfl
  | succ k ih =>
    intro hk fuel w c s hfu h1 hw hz
    obtain ⟨fuel, rfl⟩ : ∃ f, fuel = f + 1 := ⟨fuel - 1, by omega⟩
    show f_X4_winning_b (f_X4_winning fuel) _ _ _ _ _ _ _ _ _ = _
    unfold f_X4_winning_b
    rw [if_pos (show (0 : Int32) < nI (k + 1) from nI_lt (a := 0) (by omega) (by omega))]
    have hrec : ∀ c', f_X4_winning fuel (nI n) (nI (pk sd 2 6)) (nI cold) (lN (pk S 64 6)) (nI (pk (aft cold S w c' fu) 32 6)) (coatI c') (nI fu) (nI (1 - s)) (nI k) = some (nI (gv n cold S fu sd k (aft cold S w c' fu) c' (1 - s))) := fun c' => ih (by omega) fuel _ c' (1 - s) (by omega) (by omega) (fun i => aft_le hw c' fu i) (fun i hi => aft_zero (hz i hi))
    have loop : ∀ (fl m : Nat), m ≤ n → n - m < fl → anyB (fun i => opb sd w s i && gv n cold S fu sd k (aft cold S w i fu) i (1 - s) == s) m = false → f_X4_winning_17 (nI n) (nI (pk sd 2 6)) (nI cold) (lN (pk S 64 6)) (f_X4_winning fuel) fl (nI (pk w 32 6)) (coatI c) (nI fu) (nI s) (nI (k + 1)) (if anyB (opb sd w s) m = true then 1 else 0) (nI m) = some (nI (gv n cold S fu sd (k + 1) w c s)) := by
      intro fl
      induction fl with
      | zero => intro m h1 h2; omega
      | succ fl ihl =>
        intro m g1 g2 hno
        show f_X4_winning_17_b _ _ _ _ _ (f_X4_winning_17 (nI n) (nI (pk sd 2 6)) (nI cold) (lN (pk S 64 6)) (f_X4_winning fuel) fl) _ _ _ _ _ _ _ = _
        unfold f_X4_winning_17_b
        by_cases h : m = n
        · subst h
          rw [if_pos (nI_le (Nat.le_refl m) (by omega)), gv]
          by_cases q : anyB (opb sd w s) m = true
          · rw [if_pos q, if_pos q, if_neg n10, if_neg (show ¬ anyB (fun i => opb sd w s i && gv m cold S fu sd k (aft cold S w i fu) i (1 - s) == s) m = true by rw [hno]; decide)]
            rcases bit_s h1 with rfl | rfl
            · rw [if_pos (show nI 0 = 0 from rfl)]; rfl
            · rw [if_neg (show ¬ nI 1 = 0 by decide)]; rfl
          · rw [if_neg q, if_neg q, if_pos rfl, s_afterMinute hn hc hS h6 hw hz c hf, ob1_mk, one_sub h1, nI_pred, hrec, ob1_mk, zbg_nI (gv_le k _ _ _ (by omega))]
        · have hmn : m < n := by omega
          have next : opb sd w s m = false → f_X4_winning_96 (nI n) (nI (pk sd 2 6)) (nI cold) (lN (pk S 64 6)) (f_X4_winning fuel) (f_X4_winning_17 (nI n) (nI (pk sd 2 6)) (nI cold) (lN (pk S 64 6)) (f_X4_winning fuel) fl) (nI (pk w 32 6)) (coatI c) (nI fu) (nI s) (nI (k + 1)) (if anyB (opb sd w s) m = true then 1 else 0) (nI m) = some (nI (gv n cold S fu sd (k + 1) w c s)) := by
            intro ho
            unfold f_X4_winning_96
            have := ihl (m + 1) (by omega) (by omega) (by rw [anyB, hno, ho]; rfl)
            rw [anyB, ho, Bool.or_false] at this
            rw [bnd_mk, nI_1]
            exact this
          have hsm := hs m
          rw [if_neg (nI_ge hmn (by omega)), s_sideOf hs (by omega), ob1_mk]
          by_cases y : sd m = s
          · rw [if_pos (show nI (sd m) = nI s by rw [y]), s_isFrozen hw (by omega), ob1_mk]
            by_cases f0 : w m = 0
            · rw [if_pos f0, if_neg n10]
              exact next (by simp [opb, f0])
            · have ho : opb sd w s m = true := opb_iff.mpr ⟨y, f0⟩
              rw [if_neg f0, if_pos rfl, ← coatI_lt (c := m) (by omega), s_afterMinute hn hc hS h6 hw hz m hf, ob1_mk, one_sub h1, nI_pred, hrec, ob1_mk, coatI_lt (c := m) (by omega)]
              have hg := gv_le (n := n) (cold := cold) (S := S) (fu := fu) (sd := sd) k (aft cold S w m fu) m (1 - s) (by omega)
              have key : f_X4_winning_90 (nI n) (nI (pk sd 2 6)) (nI cold) (lN (pk S 64 6)) (f_X4_winning fuel) (f_X4_winning_17 (nI n) (nI (pk sd 2 6)) (nI cold) (lN (pk S 64 6)) (f_X4_winning fuel) fl) (nI (pk w 32 6)) (coatI c) (nI fu) (nI s) (nI (k + 1)) 1 (nI m) (nI (gv n cold S fu sd k (aft cold S w m fu) m (1 - s))) (nI (gv n cold S fu sd k (aft cold S w m fu) m (1 - s))) (nI s) = some (nI (gv n cold S fu sd (k + 1) w c s)) := by
                unfold f_X4_winning_90
                by_cases e : gv n cold S fu sd k (aft cold S w m fu) m (1 - s) = s
                · have ha : anyB (opb sd w s) n = true := anyB_iff.mpr ⟨m, hmn, ho⟩
                  have hb : anyB (fun i => opb sd w s i && gv n cold S fu sd k (aft cold S w i fu) i (1 - s) == s) n = true := anyB_iff.mpr ⟨m, hmn, by simp [ho, e]⟩
                  rw [e, if_pos rfl, zbg_nI h1, gv, if_pos ha, if_pos hb]
                · rw [if_neg (fun h => e ((nI_eq (by omega) (by omega)).mp h))]
                  unfold f_X4_winning_96
                  have := ihl (m + 1) (by omega) (by omega) (by rw [anyB, hno]; simp [e])
                  rw [anyB, ho, Bool.or_true, if_pos rfl] at this
                  rw [bnd_mk, nI_1]
                  exact this
              rcases bit_s h1 with rfl | rfl
              · rw [if_neg (show ¬ nI 0 = 1 by decide)]
                exact key
              · rw [if_pos (show nI 1 = 1 from rfl)]
                exact key
          · rw [if_neg (fun h => y ((nI_eq (by omega) (by omega)).mp h))]
            exact next (by simp [opb, y])
    exact loop FU 0 (Nat.zero_le _) (by show n - 0 < 20000; omega) rfl
/-- the first who wins, and is for it -/
theorem s_firstToWin (hn : n ≤ 6) (hc : cold ≤ 5) (hS : ∀ m, S m < 64) (h6 : ∀ m, 6 ≤ m → S m = 0) (hs : ∀ m, sd m ≤ 1) (hf : fu ≤ 5) {k : Nat} (hk : k + 1 ≤ 5) {w : Nat → Nat} (hw : ∀ m, w m ≤ 20) (hz : ∀ m, n ≤ m → w m = 0) : ∃ res, f_X4_firstToWin (nI n) (nI (pk sd 2 6)) (nI cold) (lN (pk S 64 6)) (nI (pk w 32 6)) (nI fu) (nI (k + 1)) = some res ∧ ((res = -9 ∧ ∀ m, m < n → opb sd w 1 m = true → gv n cold S fu sd k (aft cold S w m fu) m 0 ≠ 1) ∨ ∃ m, m < n ∧ res = nI m ∧ opb sd w 1 m = true ∧ gv n cold S fu sd k (aft cold S w m fu) m 0 = 1 ∧ ∀ m', m' < m → opb sd w 1 m' = true → gv n cold S fu sd k (aft cold S w m' fu) m' 0 ≠ 1) := by
  unfold f_X4_firstToWin
  rw [if_pos (show (0 : Int32) < nI (k + 1) from nI_lt (a := 0) (by omega) (by omega))]
  have loop : ∀ (fl m : Nat), m ≤ n → n - m < fl → (∀ m', m' < m → opb sd w 1 m' = true → gv n cold S fu sd k (aft cold S w m' fu) m' 0 ≠ 1) → ∃ res, f_X4_firstToWin_9 (nI n) (nI (pk sd 2 6)) (nI cold) (lN (pk S 64 6)) (nI (pk w 32 6)) (nI fu) fl (nI (k + 1)) (nI m) = some res ∧ ((res = -9 ∧ ∀ m, m < n → opb sd w 1 m = true → gv n cold S fu sd k (aft cold S w m fu) m 0 ≠ 1) ∨ ∃ m, m < n ∧ res = nI m ∧ opb sd w 1 m = true ∧ gv n cold S fu sd k (aft cold S w m fu) m 0 = 1 ∧ ∀ m', m' < m → opb sd w 1 m' = true → gv n cold S fu sd k (aft cold S w m' fu) m' 0 ≠ 1) := by
    intro fl
    induction fl with
    | zero => intro m h1 h2; omega
    | succ fl ihl =>
      intro m g1 g2 hno
      show ∃ res, f_X4_firstToWin_9_b _ _ _ _ _ _ (f_X4_firstToWin_9 (nI n) (nI (pk sd 2 6)) (nI cold) (lN (pk S 64 6)) (nI (pk w 32 6)) (nI fu) fl) _ _ = _ ∧ _
      unfold f_X4_firstToWin_9_b f_X4_firstToWin_68
      by_cases h : m = n
      · subst h
        rw [if_pos (nI_le (Nat.le_refl m) (by omega))]
        exact ⟨_, rfl, Or.inl ⟨rfl, hno⟩⟩
      · have hmn : m < n := by omega
        have hsm := hs m
        have next : (opb sd w 1 m = true → gv n cold S fu sd k (aft cold S w m fu) m 0 ≠ 1) → _ := fun hq => ihl (m + 1) (by omega) (by omega) (fun m' hm' => by
          by_cases e : m' = m
          · rw [e]; exact hq
          · exact hno m' (by omega))
        rw [if_neg (nI_ge hmn (by omega)), s_sideOf hs (by omega), ob1_mk, bnd_mk, nI_1]
        by_cases y : sd m = 1
        · rw [if_pos (show nI (sd m) = 1 by rw [y]; rfl), s_isFrozen hw (by omega), ob1_mk]
          by_cases f0 : w m = 0
          · rw [if_pos f0, if_neg n10]
            exact next (fun ho => absurd f0 (opb_iff.mp ho).2)
          · have e1 := s_winning hn hc hS h6 hs hf k (by omega) 8 (aft cold S w m fu) m 0 (by omega) (by omega) (fun i => aft_le hw m fu i) (fun i hi => aft_zero (hz i hi))
            have hg := gv_le (n := n) (cold := cold) (S := S) (fu := fu) (sd := sd) k (aft cold S w m fu) m 0 (by omega)
            rw [if_neg f0, if_pos rfl, ← coatI_lt (c := m) (by omega), s_afterMinute hn hc hS h6 hw hz m hf, ob1_mk, nI_pred, show (0 : Int32) = nI 0 from rfl, e1, ob1_mk]
            by_cases e : gv n cold S fu sd k (aft cold S w m fu) m 0 = 1
            · rw [e, if_neg (show ¬ nI 1 = nI 0 by decide), coatI_lt (c := m) (by omega)]
              exact ⟨_, rfl, Or.inr ⟨m, hmn, rfl, opb_iff.mpr ⟨y, f0⟩, e, hno⟩⟩
            · rw [show gv n cold S fu sd k (aft cold S w m fu) m 0 = 0 by omega, if_pos rfl]
              exact next (fun _ => e)
        · rw [if_neg (show ¬ nI (sd m) = 1 from fun h => y ((nI_eq (b := 1) (by omega) (by omega)).mp h))]
          exact next (fun ho => absurd (opb_iff.mp ho).1 y)
  exact loop FU 0 (Nat.zero_le _) (by show n - 0 < 20000; omega) (fun m' hm' => absurd hm' (Nat.not_lt_zero m'))
/-- the reference's next choice behind pv -/
def CH (n : Nat) (sd w : Nat → Nat) (s : Nat) (pv : Int) (q : Nat) : Prop :=
  (anyB (opb sd w s) n = false ∧ q = if 0 ≤ pv then 7 else 6) ∨ (anyB (opb sd w s) n = true ∧ ((q < n ∧ opb sd w s q = true ∧ pv < q ∧ ∀ m, m < q → pv < (m : Int) → opb sd w s m = false) ∨ (q = 7 ∧ ∀ m, m < n → pv < (m : Int) → opb sd w s m = false)))
theorem par : ∀ d, d < 6 → (1 : Int32) - (nI d - nI d / 2 * 2) = nI (1 - d % 2) := by decide +kernel
theorem s_choice (hn : n ≤ 6) {w : Nat → Nat} (hw : ∀ m, w m ≤ 20) {ys b : Nat → Int32} (hs : ∀ m, m < n → sd m ≤ 1 ∧ ys m = nI (sd m)) {d : Nat} (hd : d < 6) (hb : ∀ m, m < 6 → b (7 * d + m) = nI (w m)) {pv : Int} (hp1 : -1 ≤ pv) (hp2 : pv ≤ 6) : ∃ q, f_X8_choiceBehind (nI n) ys b (nI d) (iI pv) = some (nI q) ∧ q ≤ 7 ∧ CH n sd w (1 - d % 2) pv q := by
  have loop : ∀ (fl j q a : Nat), j ≤ 6 → j < fl → a ≤ 6 - j → ((q = 7 ∧ ∀ m, j ≤ m → m < n → pv < (m : Int) → opb sd w (1 - d % 2) m = false) ∨ (j ≤ q ∧ q < n ∧ opb sd w (1 - d % 2) q = true ∧ pv < q ∧ ∀ m, j ≤ m → m < q → pv < (m : Int) → opb sd w (1 - d % 2) m = false)) → (a = 0 ↔ ∀ m, j ≤ m → m < n → opb sd w (1 - d % 2) m = false) → ∃ q', f_X8_choiceBehind_9 (nI n) ys b fl (nI d) (iI pv) (nI q) (nI a) (iI ((j : Int) - 1)) = some (nI q') ∧ q' ≤ 7 ∧ CH n sd w (1 - d % 2) pv q' := by
    intro fl
    induction fl with
    | zero => intro j q a h1 h2; omega
    | succ fl ih =>
      intro j q a h1 h2 ha hq hz0
      show ∃ q', f_X8_choiceBehind_9_b _ _ _ (f_X8_choiceBehind_9 (nI n) ys b fl) _ _ _ _ _ = _ ∧ _
      unfold f_X8_choiceBehind_9_b f_X8_choiceBehind_57 f_X8_choiceBehind_58 f_X8_choiceBehind_72 f_X8_choiceBehind_91 f_X8_choiceBehind_92
      have hq7 : q ≤ 7 := by rcases hq with h | h <;> omega
      cases j with
      | zero =>
        rw [if_pos (show iI (((0 : Nat) : Int) - 1) < 0 by decide)]
        by_cases a0 : a = 0
        · have hall := hz0.mp a0
          have hno : anyB (opb sd w (1 - d % 2)) n = false := by
            cases hB : anyB (opb sd w (1 - d % 2)) n with
            | false => rfl
            | true =>
              obtain ⟨m, g1, g2⟩ := anyB_iff.mp hB
              rw [hall m (Nat.zero_le _) g1] at g2
              exact Bool.noConfusion g2
          have hq77 : q = 7 := by
            rcases hq with h | ⟨_, g1, g2, _⟩
            · exact h.1
            · rw [hall q (Nat.zero_le _) g1] at g2
              exact Bool.noConfusion g2
          rw [a0, if_pos (show nI 0 = 0 from rfl)]
          by_cases p0 : (0 : Int) ≤ pv
          · rw [if_pos (show (0 : Int32) ≤ iI pv by rw [show (0 : Int32) = iI 0 from rfl, iI_le (by omega) (by omega) (by omega) (by omega)]; exact p0)]
            exact ⟨q, rfl, hq7, Or.inl ⟨hno, by rw [if_pos p0]; exact hq77⟩⟩
          · rw [if_neg (show ¬ (0 : Int32) ≤ iI pv by rw [show (0 : Int32) = iI 0 from rfl, iI_le (by omega) (by omega) (by omega) (by omega)]; exact p0)]
            exact ⟨6, rfl, by omega, Or.inl ⟨hno, by rw [if_neg p0]⟩⟩
        · rw [if_neg (show ¬ nI a = 0 from nI_ne0 (by omega) (by omega))]
          refine ⟨q, rfl, hq7, Or.inr ⟨?_, ?_⟩⟩
          · cases hB : anyB (opb sd w (1 - d % 2)) n with
            | true => rfl
            | false =>
              exfalso
              refine a0 (hz0.mpr (fun m _ g1 => ?_))
              cases hm : opb sd w (1 - d % 2) m with
              | false => rfl
              | true =>
                have := anyB_iff.mpr ⟨m, g1, hm⟩
                rw [hB] at this
                exact Bool.noConfusion this
          · rcases hq with ⟨g1, g2⟩ | ⟨_, g1, g2, g3, g4⟩
            · exact Or.inr ⟨g1, fun m a b => g2 m (Nat.zero_le _) a b⟩
            · exact Or.inl ⟨g1, g2, g3, fun m a b => g4 m (Nat.zero_le _) a b⟩
      | succ i =>
        have hdec : nI i + (-1) = iI ((i : Int) - 1) := by
          rw [← iI_nI, show (-1 : Int32) = iI (-1) from rfl, iI_add (by omega) (by omega) (by omega) (by omega)]; rfl
        rw [show iI (((i + 1 : Nat) : Int) - 1) = nI i by rw [← iI_nI]; congr 1; omega, if_neg (nI_pos (by omega)), hdec]
        have shut : opb sd w (1 - d % 2) i = false ∨ n ≤ i → ∃ q', f_X8_choiceBehind_9 (nI n) ys b fl (nI d) (iI pv) (nI q) (nI a) (iI ((i : Int) - 1)) = some (nI q') ∧ q' ≤ 7 ∧ CH n sd w (1 - d % 2) pv q' := by
          intro ho
          refine ih i q a (by omega) (by omega) (by omega) ?_ ⟨fun h m g1 g2 => ?_, fun h => hz0.mpr (fun m g1 g2 => h m (by omega) g2)⟩
          · rcases hq with ⟨g1, g2⟩ | ⟨g0, g1, g2, g3, g4⟩
            · refine Or.inl ⟨g1, fun m k1 k2 k3 => ?_⟩
              by_cases e : m = i
              · rcases ho with ho | ho
                · rw [e]; exact ho
                · omega
              · exact g2 m (by omega) k2 k3
            · refine Or.inr ⟨by omega, g1, g2, g3, fun m k1 k2 k3 => ?_⟩
              by_cases e : m = i
              · rcases ho with ho | ho
                · rw [e]; exact ho
                · omega
              · exact g4 m (by omega) k2 k3
          · by_cases e : m = i
            · rcases ho with ho | ho
              · rw [e]; exact ho
              · omega
            · exact hz0.mp h m (by omega) g2
        simp only [bnd_mk, if_true, n10, if_false, show nI a + 0 = nI a from by rw [show (0 : Int32) = nI 0 from rfl, nI_add]; rfl, nI_1]
        by_cases hin : n ≤ i
        · rw [if_pos (nI_le hin (by omega))]
          exact shut (Or.inr hin)
        · obtain ⟨s1, s2⟩ := hs i (by omega)
          rw [if_neg (nI_ge (by omega) (by omega)), ing_nI (by omega) (by omega), nI_clamp (by omega), s2, par d hd, show (7 : Int32) * nI d = nI (7 * d) from u_mulz 7 d, nI_add, ing_nI (by omega) (by omega), nI_clamp (by omega), hb i (by omega)]
          by_cases y : sd i = 1 - d % 2
          · rw [if_pos (show nI (sd i) = nI (1 - d % 2) by rw [y])]
            have hwi := hw i
            by_cases f0 : w i = 0
            · rw [if_pos (show nI (w i) ≤ 0 by rw [f0]; decide)]
              exact shut (Or.inl (by simp [opb, f0]))
            · have ho : opb sd w (1 - d % 2) i = true := opb_iff.mpr ⟨y, f0⟩
              rw [if_neg (nI_nle (by omega) (by omega))]
              by_cases c0 : (i : Int) ≤ pv
              · rw [if_pos (show nI i ≤ iI pv by rw [← iI_nI, iI_le (by omega) (by omega) (by omega) (by omega)]; exact c0)]
                refine ih i q (a + 1) (by omega) (by omega) (by omega) ?_ ⟨fun h => absurd h (Nat.succ_ne_zero a), fun h => ?_⟩
                · rcases hq with ⟨g1, g2⟩ | ⟨g0, g1, g2, g3, g4⟩
                  · refine Or.inl ⟨g1, fun m k1 k2 k3 => ?_⟩
                    exact g2 m (by omega) k2 k3
                  · refine Or.inr ⟨by omega, g1, g2, g3, fun m k1 k2 k3 => ?_⟩
                    exact g4 m (by omega) k2 k3
                · have := h i (Nat.le_refl i) (by omega)
                  rw [ho] at this; exact Bool.noConfusion this
              · rw [if_neg (show ¬ nI i ≤ iI pv by rw [← iI_nI, iI_le (by omega) (by omega) (by omega) (by omega)]; exact c0)]
                refine ih i i (a + 1) (by omega) (by omega) (by omega) (Or.inr ⟨Nat.le_refl i, by omega, ho, by omega, fun m k1 k2 k3 => by omega⟩) ⟨fun h => absurd h (Nat.succ_ne_zero a), fun h => ?_⟩
                have := h i (Nat.le_refl i) (by omega)
                rw [ho] at this; exact Bool.noConfusion this
          · rw [if_neg (show ¬ nI (sd i) = nI (1 - d % 2) from fun h => y ((nI_eq (by omega) (by omega)).mp h))]
            exact shut (Or.inl (by simp [opb, y]))
  unfold f_X8_choiceBehind
  rw [show (7 : Int32) = nI 7 from rfl, show (0 : Int32) = nI 0 from rfl, show (5 : Int32) = iI (((6 : Nat) : Int) - 1) from rfl]
  exact loop FU 6 7 0 (Nat.le_refl 6) (by show 6 < 20000; omega) (by omega) (Or.inl ⟨rfl, fun m a b => by omega⟩) ⟨fun _ m a b => by omega, fun _ => rfl⟩
end
