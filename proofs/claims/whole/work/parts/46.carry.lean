/-! the first row that carries -/
section CARRYING
variable {n : Nat} {w sd S : Nat → Nat} {cold fu wo : Nat}
def gd (n : Nat) (sd : Nat → Nat) (cold : Nat) (S : Nat → Nat) (fu wo k : Nat) (w : Nat → Nat) (r : Nat) : Prop :=
  okp cold S fu wo w (pln n k r) = true ∧ 0 < sI (vt (run cold S fu w (pln n k r)) sd) n
theorem gd_first {k m r : Nat} (hm : m < n) (hr : r < n ^ k) : gd n sd cold S fu wo (k + 1) w (m * n ^ k + r) ↔ w m ≠ 0 ∧ m ≠ wo ∧ gd n sd cold S fu wo k (aft cold S w m fu) r := by
  unfold gd
  rw [pln_first hm hr]
  simp only [okp, run, Bool.and_eq_true, Bool.not_eq_true', beq_eq_false_iff_ne, ne_eq, and_assoc]
theorem row_before {m N r0 r' : Nat} (hN : 0 < N) (hr0 : r0 < N) (h : r' < m * N + r0) : ∃ m' r'', r' = m' * N + r'' ∧ r'' < N ∧ (m' < m ∨ (m' = m ∧ r'' < r0)) := by
  refine ⟨r' / N, r' % N, ?_, Nat.mod_lt _ hN, ?_⟩
  · rw [Nat.mul_comm]; exact (Nat.div_add_mod r' N).symm
  · have e : r' = r' / N * N + r' % N := by rw [Nat.mul_comm]; exact (Nat.div_add_mod r' N).symm
    rcases Nat.lt_trichotomy (r' / N) m with q | q | q
    · exact Or.inl q
    · rw [q] at e; exact Or.inr ⟨q, by omega⟩
    · have h2 : (m + 1) * N ≤ r' / N * N := Nat.mul_le_mul_right N q
      rw [Nat.add_mul] at h2
      omega
theorem run_ge {j : Nat} : ∀ (p : List Nat) {w : Nat → Nat}, (∀ m, w m ≤ 20) → w j ≤ run cold S fu w p j + cold * p.length
  | [], w, _ => by simp [run]
  | m :: p, w, hw => by
    have ih := run_ge (j := j) p (w := aft cold S w m fu) (fun i => aft_le hw m fu i)
    have h1 : w j ≤ aft cold S w m fu j + cold := by
      have := hw j
      unfold aft
      split
      · omega
      · split
        · omega
        · split <;> omega
    rw [run, List.length_cons, Nat.mul_add, Nat.mul_one]
    omega
theorem hope (hs : ∀ m, sd m ≤ 1) (hw : ∀ m, w m ≤ 20) (p : List Nat) (m : Nat) : vt (run cold S fu w p) sd m ≤ hp1 w sd (cold * p.length) m := by
  have h1 := hs m
  unfold vt hp1
  by_cases s1 : sd m = 1
  · rw [if_pos s1, if_pos s1]
    by_cases z : w m = 0
    · rw [if_pos z, if_pos (run_zero p z)]; exact Int.le_refl _
    · rw [if_neg z]; split <;> omega
  · rw [if_neg s1, if_neg s1]
    by_cases q : cold * p.length < w m
    · have := run_ge (cold := cold) (S := S) (fu := fu) (j := m) p hw
      rw [if_pos q, if_neg (by omega)]; exact Int.le_refl _
    · rw [if_neg q]; split <;> omega
theorem sI_mono {f g : Nat → Int} (h : ∀ k, f k ≤ g k) : ∀ n, sI f n ≤ sI g n
  | 0 => Int.le_refl _
  | n + 1 => by have := sI_mono h n; have := h n; rw [sI, sI]; omega
def enc : List Nat → Nat
  | [] => 0
  | m :: p => enc p * 8 + m
theorem enc_lt : ∀ {p : List Nat}, (∀ m ∈ p, m < 8) → enc p < 8 ^ p.length
  | [], _ => by simp [enc]
  | m :: p, h => by
    have h1 := enc_lt (p := p) (fun x hx => h x (List.mem_cons_of_mem _ hx))
    have h2 := h m List.mem_cons_self
    rw [enc, List.length_cons, Nat.pow_succ]
    omega
theorem pln_mem {n : Nat} (hn : n ≤ 6) : ∀ {k r : Nat}, r < n ^ k → ∀ m ∈ pln n k r, m < n
  | 0, _, _, m, h => by simp [pln] at h
  | k + 1, r, hr, m, h => by
    obtain ⟨a, r', h1, h2, rfl⟩ := row_split hr
    rw [pln_first h1 h2] at h
    rcases List.mem_cons.mp h with q | q
    · subst q; exact h1
    · exact pln_mem hn h2 m q
theorem enc_pln {k r : Nat} (hn : n ≤ 6) (hk : k ≤ 5) (hr : r < n ^ k) : enc (pln n k r) < 32768 := by
  have h1 := enc_lt (p := pln n k r) (fun m hm => by have := pln_mem hn hr m hm; omega)
  rw [pln_length] at h1
  have h2 : 8 ^ k ≤ 8 ^ 5 := Nat.pow_le_pow_right (by omega) hk
  omega
theorem nI_ne9 {a : Nat} (h : a < 2 ^ 31) : ¬ nI a = -9 := by
  intro h9
  have h1 := congrArg Int32.toInt h9
  rw [nI_toInt h] at h1
  have h10 : (-9 : Int32).toInt = -9 := by decide
  omega
theorem s_withFirst {e m : Nat} (he : e < 32768) (hm : m < 8) : f_X4_withFirst (nI m) (nI e) = some (nI (e * 8 + m)) := by
  unfold f_X4_withFirst
  have h1 : nI e <<< ((3 : Int32) &&& 31) = nI (e * 8) := u_shl (n := e) (k := 3) (by omega) (by omega)
  have h2 := fa_or_sum (a := m) (k := 3) e (by omega)
  rw [h1, Nat.mul_comm e, show (8 : Nat) = 2 ^ 3 from rfl, h2]
/-- what carrying answers -/
def CR (n : Nat) (sd : Nat → Nat) (cold : Nat) (S : Nat → Nat) (fu wo k : Nat) (w : Nat → Nat) (res : Int32) : Prop :=
  (∃ r, r < n ^ k ∧ gd n sd cold S fu wo k w r ∧ (∀ r', r' < r → ¬ gd n sd cold S fu wo k w r') ∧ res = nI (enc (pln n k r))) ∨ ((∀ r, r < n ^ k → ¬ gd n sd cold S fu wo k w r) ∧ res = -9)
theorem s_carrying (hn : n ≤ 6) (hc : cold ≤ 5) (hS : ∀ m, S m < 64) (h6 : ∀ m, 6 ≤ m → S m = 0) (hs : ∀ m, sd m ≤ 1) (hf : fu ≤ 5) : ∀ (k : Nat), k ≤ 5 → ∀ (fuel : Nat) (w : Nat → Nat), k < fuel → (∀ m, w m ≤ 20) → (∀ m, n ≤ m → w m = 0) → ∃ res, f_X4_carrying fuel (nI n) (nI (pk sd 2 6)) (nI cold) (lN (pk S 64 6)) (nI (pk w 32 6)) (nI fu) (coatI wo) (nI k) = some res ∧ CR n sd cold S fu wo k w res := by
  intro k
  induction k with
  | zero =>
    intro hk fuel w hfu hw hz
    obtain ⟨fuel, rfl⟩ : ∃ f, fuel = f + 1 := ⟨fuel - 1, by omega⟩
    show ∃ res, f_X4_carrying_b (f_X4_carrying fuel) _ _ _ _ _ _ _ _ = some res ∧ _
    unfold f_X4_carrying_b
    rw [if_neg (show ¬ (0 : Int32) < nI 0 by decide), s_isCarried hn hw hs, ob1_mk]
    have e : gd n sd cold S fu wo 0 w 0 ↔ 0 < sI (vt w sd) n := by simp [gd, okp, run, pln]
    by_cases q : 0 < sI (vt w sd) n
    · rw [if_pos q, if_neg (by decide)]
      exact ⟨0, rfl, Or.inl ⟨0, by simp, e.mpr q, fun r' h => absurd h (Nat.not_lt_zero r'), rfl⟩⟩
    · rw [if_neg q, if_pos rfl]
      refine ⟨-9, rfl, Or.inr ⟨fun r hr => ?_, rfl⟩⟩
      have : r = 0 := by simp at hr; omega
      subst this
      exact fun h => q (e.mp h)
  | succ k ih =>
    intro hk fuel w hfu hw hz
    obtain ⟨fuel, rfl⟩ : ∃ f, fuel = f + 1 := ⟨fuel - 1, by omega⟩
    show ∃ res, f_X4_carrying_b (f_X4_carrying fuel) _ _ _ _ _ _ _ _ = some res ∧ _
    unfold f_X4_carrying_b
    rw [if_pos (show (0 : Int32) < nI (k + 1) from nI_lt (a := 0) (by omega) (by omega)), s_might hn hc (by omega) hw hs, ob1_mk]
    by_cases q : 0 < sI (hp1 w sd (cold * (k + 1))) n
    · rw [if_pos q, if_neg (by decide)]
      -- the loop over who speaks first
      have loop : ∀ (fl m : Nat), m ≤ n → n - m < fl → (∀ m', m' < m → ∀ r, r < n ^ k → ¬ gd n sd cold S fu wo (k + 1) w (m' * n ^ k + r)) → ∃ res, f_X4_carrying_36 (nI n) (nI (pk sd 2 6)) (nI cold) (lN (pk S 64 6)) (f_X4_carrying fuel) fl (nI (pk w 32 6)) (nI fu) (coatI wo) (nI (k + 1)) (nI m) = some res ∧ CR n sd cold S fu wo (k + 1) w res := by
        intro fl
        induction fl with
        | zero => intro m h1 h2; omega
        | succ fl ihl =>
          intro m h1 h2 hno
          show ∃ res, f_X4_carrying_36_b _ _ _ _ _ (f_X4_carrying_36 (nI n) (nI (pk sd 2 6)) (nI cold) (lN (pk S 64 6)) (f_X4_carrying fuel) fl) _ _ _ _ _ = some res ∧ _
          unfold f_X4_carrying_36_b
          by_cases h : m = n
          · subst h
            rw [if_pos (nI_le (Nat.le_refl m) (by omega))]
            refine ⟨-9, rfl, Or.inr ⟨fun r hr => ?_, rfl⟩⟩
            obtain ⟨a, r', a1, a2, rfl⟩ := row_split hr
            exact hno a a1 r' a2
          · have hmn : m < n := by omega
            -- on to the next one
            have next : (∀ r, r < n ^ k → ¬ gd n sd cold S fu wo (k + 1) w (m * n ^ k + r)) → ∃ res, f_X4_carrying_98 (nI n) (nI (pk sd 2 6)) (nI cold) (lN (pk S 64 6)) (f_X4_carrying fuel) (f_X4_carrying_36 (nI n) (nI (pk sd 2 6)) (nI cold) (lN (pk S 64 6)) (f_X4_carrying fuel) fl) (nI (pk w 32 6)) (nI fu) (coatI wo) (nI (k + 1)) (nI m) = some res ∧ CR n sd cold S fu wo (k + 1) w res := by
              intro hm
              unfold f_X4_carrying_98
              rw [bnd_mk, nI_1]
              refine ihl (m + 1) (by omega) (by omega) (fun m' hm' r hr => ?_)
              by_cases e : m' = m
              · subst e; exact hm r hr
              · exact hno m' (by omega) r hr
            rw [if_neg (nI_ge hmn (by omega))]
            by_cases y : m = wo
            · rw [if_pos ((coatI_eq (by omega)).mpr y)]
              exact next (fun r hr g => ((gd_first hmn hr).mp g).2.1 y)
            · rw [if_neg (fun h => y ((coatI_eq (by omega)).mp h)), s_isFrozen hw (by omega), ob1_mk]
              by_cases z : w m = 0
              · rw [if_pos z, if_neg (by decide)]
                exact next (fun r hr g => ((gd_first hmn hr).mp g).1 z)
              · rw [if_neg z, if_pos rfl, ← coatI_lt (c := m) (by omega), s_afterMinute hn hc hS h6 hw hz m hf, ob1_mk, coatI_lt (c := m) (by omega)]
                rw [show nI (k + 1) - 1 = nI k from by rw [show (1 : Int32) = nI 1 from rfl, pk_sub (by omega)]; rfl]
                obtain ⟨res, g1, g2⟩ := ih (by omega) fuel (aft cold S w m fu) (by omega) (fun i => aft_le hw m fu i) (fun i hi => aft_zero (hz i hi))
                rw [g1, ob1_mk]
                rcases g2 with ⟨r0, b1, b2, b3, rfl⟩ | ⟨b1, rfl⟩
                · have hen := enc_pln (n := n) hn (show k ≤ 5 by omega) b1
                  rw [if_neg (nI_ne9 (by omega)), s_withFirst hen (by omega), ob1_mk]
                  refine ⟨_, rfl, Or.inl ⟨m * n ^ k + r0, ?_, (gd_first hmn b1).mpr ⟨z, y, b2⟩, fun r' hr' => ?_, ?_⟩⟩
                  · have : (m + 1) * n ^ k ≤ n * n ^ k := Nat.mul_le_mul_right _ hmn
                    rw [Nat.add_mul] at this
                    rw [Nat.pow_succ, Nat.mul_comm (n ^ k) n]
                    omega
                  · obtain ⟨m', r'', rfl, e1, e2⟩ := row_before (show 0 < n ^ k by omega) b1 hr'
                    rcases e2 with e2 | ⟨rfl, e2⟩
                    · exact hno m' e2 r'' e1
                    · exact fun g => b3 r'' e2 ((gd_first hmn e1).mp g).2.2
                  · rw [pln_first hmn b1]; rfl
                · rw [if_pos rfl]
                  exact next (fun r hr g => b1 r hr ((gd_first hmn hr).mp g).2.2)
      exact loop FU 0 (Nat.zero_le n) (by show n - 0 < 20000; omega) (fun m' hm' => absurd hm' (Nat.not_lt_zero m'))
    · rw [if_neg q, if_pos rfl]
      refine ⟨-9, rfl, Or.inr ⟨fun r hr g => q ?_, rfl⟩⟩
      have h1 := sI_mono (hope (cold := cold) (S := S) (fu := fu) hs hw (pln n (k + 1) r)) n
      rw [pln_length] at h1
      exact Int.lt_of_lt_of_le g.2 h1
/-- how many minutes at least -/
def CB (n : Nat) (sd : Nat → Nat) (cold : Nat) (S : Nat → Nat) (fu wo : Nat) (w : Nat → Nat) (res : Int32) : Prop :=
  (∃ k, k ≤ 5 ∧ res = nI k ∧ (∃ r, r < n ^ k ∧ gd n sd cold S fu wo k w r) ∧ ∀ k', k' < k → ∀ r, r < n ^ k' → ¬ gd n sd cold S fu wo k' w r) ∨ (res = -9 ∧ ∀ k, k ≤ 5 → ∀ r, r < n ^ k → ¬ gd n sd cold S fu wo k w r)
theorem CB_one {r1 r2 : Int32} (h1 : CB n sd cold S fu wo w r1) (h2 : CB n sd cold S fu wo w r2) : r1 = r2 := by
  rcases h1 with ⟨k, a1, rfl, ⟨r, a2, a3⟩, a4⟩ | ⟨rfl, a1⟩
  · rcases h2 with ⟨j, b1, rfl, ⟨t, b2, b3⟩, b4⟩ | ⟨rfl, b1⟩
    · rcases Nat.lt_trichotomy k j with q | q | q
      · exact absurd a3 (b4 k q r a2)
      · rw [q]
      · exact absurd b3 (a4 j q t b2)
    · exact absurd a3 (b1 k a1 r a2)
  · rcases h2 with ⟨j, b1, rfl, ⟨t, b2, b3⟩, b4⟩ | ⟨rfl, b1⟩
    · exact absurd b3 (a1 j b1 t b2)
    · rfl
theorem s_fewest (hn : n ≤ 6) (hc : cold ≤ 5) (hS : ∀ m, S m < 64) (h6 : ∀ m, 6 ≤ m → S m = 0) (hs : ∀ m, sd m ≤ 1) (hf : fu ≤ 5) (hw : ∀ m, w m ≤ 20) (hz : ∀ m, n ≤ m → w m = 0) : ∃ res, f_X4_fewestMinutes (nI n) (nI (pk sd 2 6)) (nI cold) (lN (pk S 64 6)) (nI (pk w 32 6)) (nI fu) (coatI wo) = some res ∧ CB n sd cold S fu wo w res := by
  have loop : ∀ (fl k : Nat), k ≤ 6 → 6 - k < fl → (∀ k', k' < k → ∀ r, r < n ^ k' → ¬ gd n sd cold S fu wo k' w r) → ∃ res, f_X4_fewestMinutes_2 (nI n) (nI (pk sd 2 6)) (nI cold) (lN (pk S 64 6)) (nI (pk w 32 6)) (nI fu) fl (coatI wo) (nI k) = some res ∧ CB n sd cold S fu wo w res := by
    intro fl
    induction fl with
    | zero => intro k h1 h2; omega
    | succ fl ihl =>
      intro k h1 h2 hno
      show ∃ res, f_X4_fewestMinutes_2_b _ _ _ _ _ _ (f_X4_fewestMinutes_2 (nI n) (nI (pk sd 2 6)) (nI cold) (lN (pk S 64 6)) (nI (pk w 32 6)) (nI fu) fl) _ _ = some res ∧ _
      unfold f_X4_fewestMinutes_2_b
      by_cases h : k = 6
      · subst h
        rw [if_pos (by decide)]
        exact ⟨-9, rfl, Or.inr ⟨rfl, fun k hk => hno k (by omega)⟩⟩
      · rw [if_neg (show ¬ (5 : Int32) < nI k from nI_nlt (b := k) (a := 5) (by omega) (by omega))]
        obtain ⟨res, g1, g2⟩ := s_carrying (n := n) (sd := sd) (S := S) (cold := cold) (fu := fu) (wo := wo) hn hc hS h6 hs hf k (by omega) 8 w (by omega) hw hz
        rw [g1, ob1_mk]
        rcases g2 with ⟨r0, b1, b2, b3, rfl⟩ | ⟨b1, rfl⟩
        · have hen := enc_pln (n := n) hn (show k ≤ 5 by omega) b1
          rw [if_neg (nI_ne9 (by omega))]
          exact ⟨_, rfl, Or.inl ⟨k, by omega, rfl, ⟨r0, b1, b2⟩, hno⟩⟩
        · rw [if_pos rfl, bnd_mk, nI_1]
          refine ihl (k + 1) (by omega) (by omega) (fun k' hk' r hr => ?_)
          by_cases e : k' = k
          · subst e; exact b1 r hr
          · exact hno k' (by omega) r hr
  unfold f_X4_fewestMinutes
  exact loop FU 0 (by omega) (by decide) (fun k' hk' => absurd hk' (Nat.not_lt_zero k'))
/-- the reference's search -/
theorem s_carriedBy (hn : n ≤ 6) (hc : cold ≤ 5) (hS : ∀ m, S m < 64) (h6 : ∀ m, 6 ≤ m → S m = 0) {yq ys s : Nat → Int32} (hy : ∀ c, c < n → yq c = nI (S c)) (hss : ∀ m, m < n → sd m ≤ 1 ∧ ys m = nI (sd m)) (hf : fu ≤ 5) (hw : ∀ m, w m ≤ 20) (hz : ∀ m, n ≤ m → w m = 0) {c : Nat} (hrow : SRow s w c fu) (bo pi be : Nat → Int32) :
    ∃ res b' pi' be', f_X8_carriedBy (nI n) (nI cold) yq ys s bo pi be (coatI wo) = some (res, b', pi', be') ∧ CB n sd cold S fu wo w res ∧ ∀ k, k ≤ 5 → res = nI k → ∃ r, r < n ^ k ∧ gd n sd cold S fu wo k w r ∧ (∀ r', r' < r → ¬ gd n sd cold S fu wo k w r') ∧ ∀ i, i < k → be' i = nI ((pln n k r).getD i 0) := by
  unfold f_X8_carriedBy
  obtain ⟨b0, g1, g2⟩ := s_setsBoard s bo
  rw [g1, ob1_mk]
  have hb0 : BRow b0 0 w c := ⟨fun m hm => by rw [Nat.mul_zero, Nat.zero_add, g2 m (by omega)]; exact hrow.1 m hm, by rw [Nat.mul_zero, Nat.zero_add, g2 6 (by omega)]; exact hrow.2.1⟩
  have outer : ∀ (fl k : Nat) (b pi be : Nat → Int32), k ≤ 6 → 6 - k < fl → BRow b 0 w c → (∀ k', k' < k → ∀ r, r < n ^ k' → ¬ gd n sd cold S fu wo k' w r) → ∃ res b' pi' be', f_X8_carriedBy_6 (nI n) (nI cold) yq ys s fl (coatI wo) (nI k) b pi be = some (res, b', pi', be') ∧ CB n sd cold S fu wo w res ∧ ∀ k, k ≤ 5 → res = nI k → ∃ r, r < n ^ k ∧ gd n sd cold S fu wo k w r ∧ (∀ r', r' < r → ¬ gd n sd cold S fu wo k w r') ∧ ∀ i, i < k → be' i = nI ((pln n k r).getD i 0) := by
    intro fl
    induction fl with
    | zero => intro k b pi be h1 h2; omega
    | succ fl iho =>
      intro k b pi be h1 h2 hb hno
      show ∃ res b' pi' be', f_X8_carriedBy_6_b _ _ _ _ _ (f_X8_carriedBy_6 (nI n) (nI cold) yq ys s fl) _ _ _ _ _ = some (res, b', pi', be') ∧ _
      unfold f_X8_carriedBy_6_b
      by_cases h : k = 6
      · subst h
        rw [if_pos (by decide)]
        exact ⟨-9, b, pi, be, rfl, Or.inr ⟨rfl, fun k hk => hno k (by omega)⟩, fun k hk e => absurd e.symm (nI_ne9 (by omega))⟩
      · rw [show (6 : Int32) = nI 6 from rfl, if_neg (nI_ge (by omega) (by omega))]
        have hp := pow_small hn (show k ≤ 5 by omega)
        have inner : ∀ (fi r : Nat) (b pi : Nat → Int32), r ≤ n ^ k → n ^ k - r < fi → BRow b 0 w c → (∀ r', r' < r → ¬ gd n sd cold S fu wo k w r') → ∃ res b' pi' be', f_X8_carriedBy_14 (nI n) (nI cold) yq ys s (f_X8_carriedBy_6 (nI n) (nI cold) yq ys s fl) fi (coatI wo) (nI k) (nI r) b pi be = some (res, b', pi', be') ∧ CB n sd cold S fu wo w res ∧ ∀ k, k ≤ 5 → res = nI k → ∃ r, r < n ^ k ∧ gd n sd cold S fu wo k w r ∧ (∀ r', r' < r → ¬ gd n sd cold S fu wo k w r') ∧ ∀ i, i < k → be' i = nI ((pln n k r).getD i 0) := by
          intro fi
          induction fi with
          | zero => intro r b pi h1 h2; omega
          | succ fi ihi =>
            intro r b pi r1 r2 hb hnr
            show ∃ res b' pi' be', f_X8_carriedBy_14_b _ _ _ _ _ _ (f_X8_carriedBy_14 (nI n) (nI cold) yq ys s (f_X8_carriedBy_6 (nI n) (nI cold) yq ys s fl) fi) _ _ _ _ _ _ = some (res, b', pi', be') ∧ _
            unfold f_X8_carriedBy_14_b
            rw [s_plans hn (by omega), ob1_mk]
            by_cases e : r = n ^ k
            · subst e
              rw [if_pos (nI_le (Nat.le_refl _) (by omega)), bnd_mk, nI_1]
              refine iho (k + 1) b pi be (by omega) (by omega) hb (fun k' hk' r hr => ?_)
              by_cases e2 : k' = k
              · subst e2; exact hnr r hr
              · exact hno k' (by omega) r hr
            · have hrl : r < n ^ k := by omega
              rw [if_neg (nI_ge hrl (by omega)), ing7, cl7, hrow.2.2]
              obtain ⟨b1, p1, q1, q2, q3⟩ := s_isPlan hn hc hS h6 hy hf wo (show k ≤ 5 by omega) hrl (c := c) pi hw hz hb
              rw [q1, ob3_mk]
              have next : ¬ gd n sd cold S fu wo k w r → ∃ res b' pi' be', f_X8_carriedBy_58 (nI n) (nI cold) yq ys s (f_X8_carriedBy_6 (nI n) (nI cold) yq ys s fl) (f_X8_carriedBy_14 (nI n) (nI cold) yq ys s (f_X8_carriedBy_6 (nI n) (nI cold) yq ys s fl) fi) (coatI wo) (nI k) (nI r) b1 p1 be = some (res, b', pi', be') ∧ CB n sd cold S fu wo w res ∧ ∀ k, k ≤ 5 → res = nI k → ∃ r, r < n ^ k ∧ gd n sd cold S fu wo k w r ∧ (∀ r', r' < r → ¬ gd n sd cold S fu wo k w r') ∧ ∀ i, i < k → be' i = nI ((pln n k r).getD i 0) := by
                intro hg
                unfold f_X8_carriedBy_58
                rw [bnd_mk, nI_1]
                refine ihi (r + 1) b1 p1 (by omega) (by omega) q2 (fun r' hr' => ?_)
                by_cases e2 : r' = r
                · subst e2; exact hg
                · exact hnr r' (by omega)
              by_cases ok : okp cold S fu wo w (pln n k r) = true
              · rw [if_pos ok, if_neg (by decide)]
                obtain ⟨t1, t2⟩ := q3 ok
                have t3 := t1.last
                rw [pln_length, Nat.zero_add] at t3
                rw [show (7 : Int32) = nI 7 from rfl, u_mulz, s_lead hn (run_le _ hw) hss (by omega) t3.1, ob1_mk]
                by_cases ld : 0 < sI (vt (run cold S fu w (pln n k r)) sd) n
                · rw [if_neg (fun h => (lead_le hn).mp h ld)]
                  obtain ⟨be', k1, k2⟩ := s_keepsPicks p1 be (show k ≤ 5 by omega)
                  rw [k1, ob1_mk]
                  refine ⟨_, _, _, _, rfl, Or.inl ⟨k, by omega, rfl, ⟨r, hrl, ok, ld⟩, hno⟩, fun j hj ej => ?_⟩
                  have : k = j := (nI_eq (by omega) (by omega)).mp ej
                  subst this
                  exact ⟨r, hrl, ⟨ok, ld⟩, hnr, fun i hi => by rw [k2 i hi, t2 i hi]⟩
                · rw [if_pos ((lead_le hn).mpr ld)]
                  exact next (fun g => ld g.2)
              · rw [if_neg ok, if_pos rfl]
                exact next (fun g => ok g.1)
        exact inner FU 0 b pi (Nat.zero_le _) (by show n ^ k - 0 < 20000; omega) hb (fun r' hr' => absurd hr' (Nat.not_lt_zero r'))
  exact outer FU 0 b0 pi be (by omega) (by decide) hb0 (fun k' hk' => absurd hk' (Nat.not_lt_zero k'))
end CARRYING
