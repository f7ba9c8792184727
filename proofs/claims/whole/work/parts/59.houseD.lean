/-! numbers, taken by both; members and seconders put in -/
theorem well1 : f_X8_isWell (-1) = some 1 := by decide +kernel
theorem well0 {f : Nat} (h : f < 1000) : f_X8_isWell (nI f) = some 0 := by
  unfold f_X8_isWell
  rw [if_pos (nI_pos' (by omega))]
theorem m_takeF {f : Nat} (hf : f < 1000) (l : Int32) (yt : Nat → Int32) (a b c d k : Int32) : f_X8_takes l yt a b c d (nI f) k = some (0, a, b, c, d, nI f) := by
  unfold f_X8_takes
  rw [well0 hf, ob1_mk, if_pos rfl]
theorem m_take0 (l : Int32) (yt : Nat → Int32) (a b c d : Int32) : f_X8_takes l yt a b c d (-1) 0 = some (0, a, b, c, d, c) := by
  unfold f_X8_takes
  rw [well1, ob1_mk, if_neg n10, if_pos rfl]
theorem m_numF {f : Nat} (hf : f < 1000) (l : Int32) (yt : Nat → Int32) (a b c d x y : Int32) : f_X8_number l yt a b c d (nI f) x y = some (0, a, b, c, d, nI f) := by
  unfold f_X8_number f_X8_number_25 f_X8_number_26
  rw [s_in, ob1_mk, m_takeF hf, ob6_mk, m_takeF hf, ob6_mk, ite_self, ite_self]
theorem nI_small : ∀ n, n < 7 → ∀ v, v < 101 → ((0 ≤ nI v ∧ nI v ≤ nI n - 1) ↔ v < n) := by decide +kernel
theorem nI_sm1 : ∀ n, n < 7 → nI n - 1 < 100 := by decide
section
variable {L : Nat} {t : Nat → Nat} {xb yt : Nat → Int32}
theorem vl_le (p e : Nat) : vl L t p e ≤ 100 := by
  unfold vl; split
  · exact cv_le t p _
  · omega
theorem m_take1 (h : TX L t xb yt) {e : Nat} (he : e ≤ L) (b c d : Int32) : ∃ p' e' T' V', TokR L t e p' e' ∧ TV L t p' e' T' V' ∧ f_X8_takes (nI L) yt (nI e) b c d (-1) 1 = some (d, nI e', nI T', nI p', V', -1) := by
  obtain ⟨p', e', hT⟩ := tok_ex (t := t) he
  obtain ⟨T', V', h1, h2⟩ := s_tok8 h hT b c d
  refine ⟨p', e', T', V', hT, h2, ?_⟩
  unfold f_X8_takes
  rw [well1, ob1_mk, if_neg n10, if_neg n10, h1, ob4_mk]
theorem m_num1 (h : TX L t xb yt) {p e T : Nat} {V : Int32} (he : e ≤ L) (hV : TV L t p e T V) {a b : Int32} (hb : b < 100) (ok : a ≤ nI (vl L t p e) ∧ nI (vl L t p e) ≤ b) : ∃ p' e' T' V', TokR L t e p' e' ∧ TV L t p' e' T' V' ∧ f_X8_number (nI L) yt (nI e) (nI T) (nI p) V (-1) a b = some (nI (vl L t p e), nI e', nI T', nI p', V', -1) := by
  obtain ⟨_, _, _, hN, _⟩ := hV
  rcases hN with ⟨rfl, rfl, _⟩ | ⟨_, h1⟩
  · obtain ⟨p', e', T', V', g1, g2, g3⟩ := m_take1 h he (nI 2) (nI p) (nI (vl L t p e))
    refine ⟨p', e', T', V', g1, g2, ?_⟩
    unfold f_X8_number f_X8_number_26
    rw [if_pos (show nI 2 = 2 from rfl), s_in, ob1_mk, if_neg (i10 ok), g3, ob6_mk]
  · rw [h1] at ok
    exfalso
    have a1 := Int32.le_iff_toInt_le.mp ok.2
    have a2 := Int32.lt_iff_toInt_lt.mp hb
    rw [show (nI 100).toInt = 100 from by decide] at a1
    rw [show (100 : Int32).toInt = 100 from by decide] at a2
    omega
theorem m_num0 {p e T : Nat} {V : Int32} (hV : TV L t p e T V) {a b : Int32} (ok : ¬ (a ≤ nI (vl L t p e) ∧ nI (vl L t p e) ≤ b)) : f_X8_number (nI L) yt (nI e) (nI T) (nI p) V (-1) a b = some (0, nI e, nI T, nI p, V, nI p) := by
  obtain ⟨_, _, _, hN, _⟩ := hV
  unfold f_X8_number f_X8_number_25 f_X8_number_26
  rcases hN with ⟨rfl, rfl, _⟩ | ⟨h2, h1⟩
  · rw [if_pos (show nI 2 = 2 from rfl), s_in, ob1_mk, if_pos (i00 ok), m_take0, ob6_mk]
  · rw [if_neg (show ¬ nI T = 2 from fun z => by
      have hT : T ≤ 4 := by assumption
      exact h2 ((nI_eq (b := 2) (by omega) (by omega)).mp z)), m_take0, ob6_mk]
theorem s_num6 (h : TX L t xb yt) {q p e : Nat} (hT : TokR L t q p e) (tok num pl a b : Int32) : f_X6_readNumber (nI L) xb tok num pl (nI q) a b = some (if a ≤ nI (vl L t p e) ∧ nI (vl L t p e) ≤ b then 1 else 0, nI (kn L t p), nI (vl L t p e), nI p, nI e) := by
  unfold f_X6_readNumber
  rw [s_tok6 h hT, ob3_mk, s_val6 h hT, ob1_mk]
  by_cases c : nI (vl L t p e) < a
  · rw [if_pos c, if_neg (fun z => nlt_le.mpr z.1 c)]
  · rw [if_neg c]
    by_cases d : b < nI (vl L t p e)
    · rw [if_pos d, if_neg (fun z => nlt_le.mpr z.2 d)]
    · rw [if_neg d, if_pos ⟨nlt_le.mp c, nlt_le.mp d⟩]
theorem s_semi6 (h : TX L t xb yt) {q p e : Nat} (hT : TokR L t q p e) (tok pl : Int32) : f_X6_readSemicolon (nI L) xb tok pl (nI q) = some (if kn L t p = 3 then 1 else 0, nI (kn L t p), nI p, nI e) := by
  have := kn_le (L := L) (t := t) p
  unfold f_X6_readSemicolon
  rw [s_tok6 h hT, ob3_mk]
  by_cases c : kn L t p = 3
  · rw [if_pos (show nI (kn L t p) = 3 by rw [c]; rfl), if_pos c]
  · rw [if_neg (show ¬ nI (kn L t p) = 3 from fun z => c ((nI_eq (b := 3) (by omega) (by omega)).mp z)), if_neg c]
end
theorem zbg_i {β : Type} {c : Prop} [Decidable c] {x : Option β} : zbg (if c then (1 : Int32) else 0) x = x := by
  by_cases h : c
  · rw [if_pos h]; exact zbg_01 (Or.inr rfl)
  · rw [if_neg h]; exact zbg_01 (Or.inl rfl)
/-- f, at n another -/
def pt (f : Nat → Nat) (n a : Nat) (m : Nat) : Nat := if m = n then a else f m
theorem pt_s (f : Nat → Nat) (n a : Nat) : pt f n a n = a := if_pos rfl
theorem pt_n {f : Nat → Nat} {n a m : Nat} (h : m ≠ n) : pt f n a m = f m := if_neg h
theorem add_pk {B j n a : Nat} {f : Nat → Nat} (hB : B = 2 ^ j) (hz : ∀ m, n ≤ m → f m = 0) (hf : ∀ m, f m < B) (hn : n < 6) : nI (pk f B 6) ||| nI (a * B ^ n) = nI (pk (pt f n a) B 6) := by
  subst hB
  rw [pkz_ext (2 ^ j) hz (show n ≤ 6 by omega), pkz_or hf n a, pkz_ext (w := pt f n a) (2 ^ j) (n := n + 1) (fun m hm => by rw [pt_n (by omega)]; exact hz m (by omega)) (show n + 1 ≤ 6 by omega), pk_s, pt_s, pkz_cong (2 ^ j) (w := pt f n a) (w' := f) (k := n) (fun m hm => pt_n (by omega))]
theorem s_addMember {n a b : Nat} {w0 sd : Nat → Nat} (hn : n < 6) (ha : a ≤ 20) (hb : b ≤ 1) (hw : ∀ m, w0 m ≤ 20) (hwz : ∀ m, n ≤ m → w0 m = 0) (hs : ∀ m, sd m ≤ 1) (hsz : ∀ m, n ≤ m → sd m = 0) : f_X2_addMember (nI n) (nI (pk w0 32 6)) (nI (pk sd 2 6)) (nI a) (nI b) = some (nI (n + 1), nI (pk (pt w0 n a) 32 6), nI (pk (pt sd n b) 2 6)) := by
  have e1 : nI (pk w0 32 6) ||| (nI a <<< ((5 * nI n) &&& 31)) = nI (pk (pt w0 n a) 32 6) := by
    have h1 : 2 ^ (5 * n) ≤ 2 ^ 25 := Nat.pow_le_pow_right (by omega) (by omega)
    have h2 : a * 2 ^ (5 * n) ≤ 20 * 2 ^ 25 := Nat.mul_le_mul ha h1
    rw [show (5 : Int32) = nI 5 from rfl, u_mulz, u_shl (by omega) (Nat.lt_of_le_of_lt h2 (by decide)), Nat.pow_mul]
    exact add_pk (B := 32) (j := 5) rfl hwz (fun m => by have := hw m; omega) hn
  have e2 : nI (pk sd 2 6) ||| (nI b <<< (nI n &&& 31)) = nI (pk (pt sd n b) 2 6) := by
    have h1 : 2 ^ n ≤ 2 ^ 5 := Nat.pow_le_pow_right (by omega) (by omega)
    have h2 : b * 2 ^ n ≤ 1 * 2 ^ 5 := Nat.mul_le_mul hb h1
    rw [u_shl (by omega) (Nat.lt_of_le_of_lt h2 (by decide))]
    exact add_pk (B := 2) (j := 1) rfl hsz (fun m => by have := hs m; omega) hn
  unfold f_X2_addMember
  rw [e1, e2, bnd_mk, bnd_mk, bnd_mk, nI_1]
theorem pk_tb {S : Nat → Nat} (h : ∀ m, S m < 64) : ∀ (k i : Nat), (pk S 64 k).testBit i = (decide (i < 6 * k) && (S (i / 6)).testBit (i % 6))
  | 0, i => by
    show (0 : Nat).testBit i = _
    rw [Nat.zero_testBit, decide_eq_false (by omega), Bool.false_and]
  | k + 1, i => by
    have hlt := pkz_lt S 64 h k
    have e : (64 : Nat) ^ k = 2 ^ (6 * k) := by rw [Nat.pow_mul]
    rw [pk_s, e, Nat.mul_comm (S k), Nat.add_comm (pk S 64 k), Nat.testBit_two_pow_mul_add (S k) (show pk S 64 k < 2 ^ (6 * k) by rw [← e]; exact hlt), pk_tb h k i]
    by_cases c : i < 6 * k
    · rw [if_pos c, decide_eq_true c, decide_eq_true (show i < 6 * (k + 1) by omega)]
    · rw [if_neg c]
      by_cases d : i < 6 * (k + 1)
      · rw [decide_eq_true d, Bool.true_and, show i / 6 = k by omega, show i - 6 * k = i % 6 by omega]
      · rw [decide_eq_false d, Bool.false_and]
        refine Nat.testBit_lt_two_pow (Nat.lt_of_lt_of_le (h k) ?_)
        exact Nat.le_trans (show 64 ≤ 2 ^ 6 by decide) (Nat.pow_le_pow_right (by omega) (by omega))
theorem or_lt64 {x a : Nat} (hx : x < 64) (ha : a < 6) : x ||| 2 ^ a < 64 := Nat.or_lt_two_pow (n := 6) hx (Nat.lt_of_lt_of_le (Nat.pow_lt_pow_right (by omega) ha) (by decide))
theorem s_addSeconds {sc a b : Nat} {S : Nat → Nat} (ha : a < 6) (hb : b < 6) (hS : ∀ m, S m < 64) : f_X2_addSeconds (nI sc) (lN (pk S 64 6)) (nI a) (nI b) = some (nI (sc + 1), lN (pk (pt S b (S b ||| 2 ^ a)) 64 6)) := by
  have hpt : ∀ m, pt S b (S b ||| 2 ^ a) m < 64 := fun m => by
    unfold pt; split
    · exact or_lt64 (hS b) ha
    · exact hS m
  have h1 : pk S 64 6 < 2 ^ 64 := Nat.lt_trans (pkz_lt S 64 hS 6) (by decide)
  have h2 : 1 * 2 ^ (6 * b + a) < 2 ^ 64 := by rw [Nat.one_mul]; exact Nat.pow_lt_pow_right (by omega) (by omega)
  have e : lN (pk S 64 6) ||| ((1 : Int64) <<< (((6 * nI b) + nI a).toInt64 &&& 63)) = lN (pk (pt S b (S b ||| 2 ^ a)) 64 6) := by
    rw [show (6 : Int32) = nI 6 from rfl, u_mulz, nI_add, show (1 : Int64) = lN 1 from rfl, wb_shl 1 (by omega), wb_or h1 h2]
    congr 1
    refine Nat.eq_of_testBit_eq (fun i => ?_)
    rw [Nat.testBit_or, Nat.one_mul, Nat.testBit_two_pow, pk_tb hS 6 i, pk_tb hpt 6 i]
    by_cases c : i / 6 = b
    · rw [c, pt_s, Nat.testBit_or, Nat.testBit_two_pow, decide_eq_true (show i < 6 * 6 by omega), Bool.true_and, Bool.true_and]
      congr 1
      rw [decide_eq_decide]; omega
    · rw [pt_n c, decide_eq_false (show ¬ 6 * b + a = i by omega), Bool.or_false]
  unfold f_X2_addSeconds
  rw [e, bnd_mk, bnd_mk, nI_1]
/-- the drafts -/
def DR (n : Nat) (w0 sd S : Nat → Nat) (cold fur coughs sc b2 b3 b4 : Nat) (yC yF yG : Int32) (yw yq ys : Nat → Int32) : Prop :=
  WfP n w0 sd S cold fur coughs sc ∧ (b2 ≤ 1 ∧ b3 ≤ 1 ∧ b4 ≤ 1) ∧ (yC = (if b2 = 0 then -9 else nI cold) ∧ (b2 = 0 → cold = 1)) ∧ (yF = (if b3 = 0 then -9 else nI fur) ∧ (b3 = 0 → fur = 1)) ∧ (yG = (if b4 = 0 then -9 else nI coughs) ∧ (b4 = 0 → coughs = 0)) ∧ ∀ m, m < n → yw (6 + m) = nI (w0 m) ∧ ys (6 + m) = nI (sd m) ∧ yq (6 + m) = nI (S m)
def told (b2 b3 b4 : Nat) : Int32 := nI (4 * b2 + 8 * b3 + 16 * b4)
theorem told_all : ∀ b2, b2 < 2 → ∀ b3, b3 < 2 → ∀ b4, b4 < 2 → ((told b2 b3 b4 &&& ((1 : Int32) <<< (nI 2 &&& 31))) = 0 ↔ b2 = 0) ∧ ((told b2 b3 b4 &&& ((1 : Int32) <<< (nI 3 &&& 31))) = 0 ↔ b3 = 0) ∧ ((told b2 b3 b4 &&& ((1 : Int32) <<< (nI 4 &&& 31))) = 0 ↔ b4 = 0) ∧ (b2 = 0 → told b2 b3 b4 ||| ((1 : Int32) <<< (nI 2 &&& 31)) = told 1 b3 b4) ∧ (b3 = 0 → told b2 b3 b4 ||| ((1 : Int32) <<< (nI 3 &&& 31)) = told b2 1 b4) ∧ (b4 = 0 → told b2 b3 b4 ||| ((1 : Int32) <<< (nI 4 &&& 31)) = told b2 b3 1) := by
  intro b2 h2 b3 h3 b4 h4
  rcases (show b2 = 0 ∨ b2 = 1 by omega) with rfl | rfl <;> rcases (show b3 = 0 ∨ b3 = 1 by omega) with rfl | rfl <;> rcases (show b4 = 0 ∨ b4 = 1 by omega) with rfl | rfl <;> decide +kernel
theorem cls6 {m : Nat} (h : m < 6) : (6 : Int32) + nI m = nI (6 + m) := by rw [show (6 : Int32) = nI 6 from rfl, nI_add]
