/-! plans: rows of figures -/
/-- the figures of a row, the first one's first -/
def pln (n : Nat) : Nat → Nat → List Nat
  | 0, _ => []
  | k + 1, r => (r / n ^ k % n) :: pln n k r
/-- what the warmths come to along a plan -/
def run (cold : Nat) (S : Nat → Nat) (fu : Nat) : (Nat → Nat) → List Nat → (Nat → Nat)
  | w, [] => w
  | w, m :: p => run cold S fu (aft cold S w m fu) p
/-- whether each one may speak (not the silent one, not a frozen one) -/
def okp (cold : Nat) (S : Nat → Nat) (fu wo : Nat) : (Nat → Nat) → List Nat → Bool
  | _, [] => true
  | w, m :: p => !(w m == 0) && !(m == wo) && okp cold S fu wo (aft cold S w m fu) p
/-- who wears the coat along a plan -/
def lastc : Nat → List Nat → Nat
  | c, [] => c
  | _, m :: p => lastc m p
theorem pln_length (n : Nat) : ∀ k r, (pln n k r).length = k
  | 0, _ => rfl
  | k + 1, r => by rw [pln, List.length_cons, pln_length n k r]
theorem run_le {cold : Nat} {S : Nat → Nat} {fu : Nat} : ∀ {w : Nat → Nat} (p : List Nat), (∀ m, w m ≤ 20) → ∀ m, run cold S fu w p m ≤ 20
  | _, [], h => h
  | _, m :: p, h => run_le p (fun j => aft_le h m fu j)
theorem run_zero {cold : Nat} {S : Nat → Nat} {fu j : Nat} : ∀ {w : Nat → Nat} (p : List Nat), w j = 0 → run cold S fu w p j = 0
  | _, [], h => h
  | _, _ :: p, h => run_zero p (aft_zero h)
/-- the rows of the board along a plan, from row d on -/
def Rows (cold : Nat) (S : Nat → Nat) (fu : Nat) (b : Nat → Int32) : Nat → (Nat → Nat) → Nat → List Nat → Prop
  | d, w, c, [] => BRow b d w c
  | d, w, c, m :: p => BRow b d w c ∧ Rows cold S fu b (d + 1) (aft cold S w m fu) m p
theorem BRow.keep {b b' : Nat → Int32} {d : Nat} {w : Nat → Nat} {c : Nat} (h : BRow b d w c) (e : ∀ j, j < 7 * (d + 1) → b' j = b j) : BRow b' d w c :=
  ⟨fun m hm => by rw [e _ (by omega)]; exact h.1 m hm, by rw [e _ (by omega)]; exact h.2⟩
theorem Rows.last {cold : Nat} {S : Nat → Nat} {fu : Nat} {b : Nat → Int32} : ∀ {d : Nat} {w : Nat → Nat} {c : Nat} (p : List Nat), Rows cold S fu b d w c p → BRow b (d + p.length) (run cold S fu w p) (lastc c p)
  | _, _, _, [], h => h
  | d, w, c, m :: p, h => by
    have h1 := Rows.last p h.2
    rw [List.length_cons, show d + (p.length + 1) = d + 1 + p.length by omega]
    exact h1
theorem s_isPlan_loop {n : Nat} (hn : n ≤ 6) {cold : Nat} (hc : cold ≤ 5) {S : Nat → Nat} (hS : ∀ m, S m < 64) (h6 : ∀ m, 6 ≤ m → S m = 0) {yq : Nat → Int32} (hy : ∀ c, c < n → yq c = nI (S c)) {fu : Nat} (hf : fu ≤ 5) {wo : Nat} {K : Nat} (hK : K ≤ 5) {r : Nat} (hr : r < 7776) (h0 : n = 0 → K = 0) : ∀ (k : Nat) (fuel d : Nat) (w : Nat → Nat) (c : Nat) (b pi : Nat → Int32), d + k = K → k < fuel → (∀ m, w m ≤ 20) → (∀ m, n ≤ m → w m = 0) → BRow b d w c →
    ∃ b' pi', f_X8_isPlan_13 (nI n) (nI cold) yq fuel (nI r) (nI K) (coatI wo) (nI fu) (nI (n ^ k)) (nI d) b pi = some (if okp cold S fu wo w (pln n k r) then 1 else 0, b', pi') ∧ (∀ j, j < 7 * (d + 1) → b' j = b j) ∧ (∀ j, j < d → pi' j = pi j) ∧ (okp cold S fu wo w (pln n k r) = true → Rows cold S fu b' d w c (pln n k r) ∧ ∀ j, j < k → pi' (d + j) = nI ((pln n k r).getD j 0)) := by
  intro k
  induction k with
  | zero =>
    intro fuel d w c b pi hd hfu hw hz hb
    obtain ⟨fuel, rfl⟩ : ∃ f, fuel = f + 1 := ⟨fuel - 1, by omega⟩
    show ∃ b' pi', f_X8_isPlan_13_b (nI n) (nI cold) yq (f_X8_isPlan_13 (nI n) (nI cold) yq fuel) _ _ _ _ _ _ _ _ = _ ∧ _
    unfold f_X8_isPlan_13_b
    rw [if_pos (nI_le (by omega) (by omega))]
    exact ⟨b, pi, rfl, fun j _ => rfl, fun j _ => rfl, fun _ => ⟨hb, fun j hj => absurd hj (Nat.not_lt_zero j)⟩⟩
  | succ k ih =>
    intro fuel d w c b pi hd hfu hw hz hb
    obtain ⟨fuel, rfl⟩ : ∃ f, fuel = f + 1 := ⟨fuel - 1, by omega⟩
    show ∃ b' pi', f_X8_isPlan_13_b (nI n) (nI cold) yq (f_X8_isPlan_13 (nI n) (nI cold) yq fuel) _ _ _ _ _ _ _ _ = _ ∧ _
    have hn0 : 0 < n := by
      rcases Nat.eq_zero_or_pos n with q | q
      · have := h0 q; omega
      · exact q
    have hp := pow_small hn (show k + 1 ≤ 5 by omega)
    have hpk : 0 < n ^ k := Nat.pow_pos hn0
    have hdiv : n ^ (k + 1) / n = n ^ k := by rw [Nat.pow_succ]; exact Nat.mul_div_cancel _ hn0
    have hpk2 : n ^ k ≤ n ^ (k + 1) := Nat.pow_le_pow_right hn0 (by omega)
    have hq : r / n ^ k < 7776 := Nat.lt_of_le_of_lt (Nat.div_le_self _ _) hr
    obtain ⟨f, hfdef⟩ : ∃ f, f = r / n ^ k % n := ⟨_, rfl⟩
    have hfn : f < n := by rw [hfdef]; exact Nat.mod_lt _ hn0
    have hwf := hw f
    unfold f_X8_isPlan_13_b
    rw [if_neg (nI_ge (by omega) (by omega)), nzg_ok (nI_ne0 hn0 (by omega)), bnd_mk, pk_div (by omega) hn0 (by omega), hdiv, nzg_ok (nI_ne0 hpk (by omega)), nzg_ok (nI_ne0 hn0 (by omega)), bnd_mk, pk_div (by omega) hpk (by omega), pk_rem (by omega) hn0 (by omega), ← hfdef]
    rw [show (7 : Int32) = nI 7 from rfl, u_mulz, nI_add, ing_nI (by omega) (by omega), nI_clamp (by omega), hb.1 f (by omega)]
    have ep : pln n (k + 1) r = f :: pln n k r := by rw [pln, hfdef]
    rw [ep]
    by_cases z : w f = 0
    · rw [if_pos (by rw [z]; rfl)]
      have e : okp cold S fu wo w (f :: pln n k r) = false := by simp [okp, z]
      rw [e]
      exact ⟨b, pi, rfl, fun j _ => rfl, fun j _ => rfl, fun h => by cases h⟩
    · rw [if_neg (nI_ne0 (by omega) (by omega))]
      by_cases y : f = wo
      · rw [if_pos ((coatI_eq (by omega)).mpr y)]
        have e : okp cold S fu wo w (f :: pln n k r) = false := by simp [okp, y]
        rw [e]
        exact ⟨b, pi, rfl, fun j _ => rfl, fun j _ => rfl, fun h => by cases h⟩
      · rw [if_neg (fun h => y ((coatI_eq (by omega)).mp h)), ing_nI (by omega) (by omega), bnd_mk, nI_clamp (by omega)]
        obtain ⟨b1, g1, g2, g3⟩ := s_goes hn hc hS h6 (c := f) (fun _ => hy f hfn) hw hz hf (d := d) (by omega) hb (nI f) (Or.inr ⟨rfl, by omega⟩)
        rw [g1, ob1_mk, bnd_mk, nI_1]
        obtain ⟨b2, p2, i1, i2, i3, i4⟩ := ih fuel (d + 1) (aft cold S w f fu) f b1 (upd pi d (nI f)) (by omega) (by omega) (fun m => aft_le hw f fu m) (fun m hm => aft_zero (hz m hm)) g2
        have e : okp cold S fu wo w (f :: pln n k r) = okp cold S fu wo (aft cold S w f fu) (pln n k r) := by simp [okp, z, y]
        rw [e]
        refine ⟨b2, p2, i1, fun j hj => ?_, fun j hj => ?_, fun h => ?_⟩
        · rw [i2 j (by omega), g3 j hj]
        · rw [i3 j (by omega), upd_n (by omega)]
        · obtain ⟨j1, j2⟩ := i4 h
          refine ⟨⟨hb.keep (fun j hj => by rw [i2 j (by omega), g3 j hj]), j1⟩, fun j hj => ?_⟩
          rcases Nat.eq_zero_or_pos j with q | q
          · subst q
            rw [Nat.add_zero, i3 d (by omega), upd_s]
            rfl
          · obtain ⟨i, rfl⟩ : ∃ i, j = i + 1 := ⟨j - 1, by omega⟩
            rw [show d + (i + 1) = d + 1 + i by omega, j2 i (by omega)]
            rfl
theorem s_isPlan {n : Nat} (hn : n ≤ 6) {cold : Nat} (hc : cold ≤ 5) {S : Nat → Nat} (hS : ∀ m, S m < 64) (h6 : ∀ m, 6 ≤ m → S m = 0) {yq : Nat → Int32} (hy : ∀ c, c < n → yq c = nI (S c)) {fu : Nat} (hf : fu ≤ 5) (wo : Nat) {k : Nat} (hk : k ≤ 5) {r : Nat} (hr : r < n ^ k) {w : Nat → Nat} {c : Nat} {b : Nat → Int32} (pi : Nat → Int32) (hw : ∀ m, w m ≤ 20) (hz : ∀ m, n ≤ m → w m = 0) (hb : BRow b 0 w c) :
    ∃ b' pi', f_X8_isPlan (nI n) (nI cold) yq b pi (nI r) (nI k) (coatI wo) (nI fu) = some (if okp cold S fu wo w (pln n k r) then 1 else 0, b', pi') ∧ BRow b' 0 w c ∧ (okp cold S fu wo w (pln n k r) = true → Rows cold S fu b' 0 w c (pln n k r) ∧ ∀ j, j < k → pi' j = nI ((pln n k r).getD j 0)) := by
  have hp := pow_small hn hk
  obtain ⟨b', p', h1, h2, h3, h4⟩ := s_isPlan_loop hn hc hS h6 hy hf (wo := wo) hk (r := r) (by omega) (fun q => by
    subst q
    rcases Nat.eq_zero_or_pos k with y | y
    · exact y
    · rw [Nat.zero_pow y] at hr; omega) k FU 0 w c b pi (by omega) (by show k < 20000; omega) hw hz hb
  unfold f_X8_isPlan
  rw [s_power hn hk, ob1_mk]
  exact ⟨b', p', h1, hb.keep (fun j hj => h2 j hj), fun h => ⟨(h4 h).1, fun j hj => by have := (h4 h).2 j hj; rw [Nat.zero_add] at this; exact this⟩⟩
/-! keeping a plan -/
theorem s_keepsPicks_loop {pi : Nat → Int32} {k : Nat} (hk : k ≤ 5) : ∀ (fuel j : Nat) (be : Nat → Int32), j ≤ k → k - j < fuel → (∀ i, i < j → be i = pi i) → ∃ be', f_X8_keepsPicks_2 pi fuel (nI k) (nI j) be = some be' ∧ ∀ i, i < k → be' i = pi i := by
  intro fuel
  induction fuel with
  | zero => intro j be h1 h2; omega
  | succ f ih =>
    intro j be h1 h2 hb
    show ∃ be', f_X8_keepsPicks_2_b pi (f_X8_keepsPicks_2 pi f) _ _ _ = some be' ∧ _
    unfold f_X8_keepsPicks_2_b
    by_cases h : j = k
    · subst h
      rw [if_pos (nI_le (Nat.le_refl j) (by omega))]
      exact ⟨be, rfl, hb⟩
    · rw [if_neg (nI_ge (by omega) (by omega)), ing_nI (by omega) (by omega), ing_nI (by omega) (by omega), bnd_mk, bnd_mk, nI_clamp (by omega), nI_1]
      refine ih (j + 1) _ (by omega) (by omega) (fun i hi => ?_)
      by_cases e : i = j
      · subst e; rw [upd_s]
      · rw [upd_n e]; exact hb i (by omega)
theorem s_keepsPicks (pi be : Nat → Int32) {k : Nat} (hk : k ≤ 5) : ∃ be', f_X8_keepsPicks pi be (nI k) = some be' ∧ ∀ i, i < k → be' i = pi i :=
  s_keepsPicks_loop hk FU 0 be (Nat.zero_le k) (by show k - 0 < 20000; omega) (fun i hi => absurd hi (Nat.not_lt_zero i))
/-! rows by their first figure -/
theorem pln_mod (n : Nat) (m : Nat) : ∀ (j k r : Nat), j ≤ k → pln n j (m * n ^ k + r) = pln n j r
  | 0, _, _, _ => rfl
  | j + 1, k, r, h => by
    rw [pln, pln, pln_mod n m j k r (by omega)]
    rcases Nat.eq_zero_or_pos n with q | q
    · subst q
      rw [Nat.zero_pow (by omega), Nat.mul_zero, Nat.zero_add]
    · have e : m * n ^ k = n ^ j * (n * (m * n ^ (k - j - 1))) := by
        have : n ^ k = n ^ j * (n * n ^ (k - j - 1)) := by rw [← Nat.pow_succ', ← Nat.pow_add]; congr 1; omega
        rw [this, Nat.mul_left_comm, Nat.mul_left_comm m n]
      rw [e, Nat.mul_add_div (Nat.pow_pos q), Nat.mul_add_mod]
theorem pln_first {n k m r : Nat} (hm : m < n) (hr : r < n ^ k) : pln n (k + 1) (m * n ^ k + r) = m :: pln n k r := by
  have hp : 0 < n ^ k := by omega
  rw [pln, pln_mod n m k k r (Nat.le_refl k), Nat.mul_comm m, Nat.mul_add_div hp, Nat.div_eq_of_lt hr, Nat.add_zero, Nat.mod_eq_of_lt hm]
theorem row_split {n k r : Nat} (hr : r < n ^ (k + 1)) : ∃ m r', m < n ∧ r' < n ^ k ∧ r = m * n ^ k + r' := by
  have hn : 0 < n := by
    rcases Nat.eq_zero_or_pos n with q | q
    · subst q; rw [Nat.zero_pow (by omega)] at hr; omega
    · exact q
  have hp : 0 < n ^ k := Nat.pow_pos hn
  refine ⟨r / n ^ k, r % n ^ k, ?_, Nat.mod_lt _ hp, ?_⟩
  · rw [Nat.div_lt_iff_lt_mul hp, Nat.mul_comm, ← Nat.pow_succ]; exact hr
  · rw [Nat.mul_comm]; exact (Nat.div_add_mod r (n ^ k)).symm
