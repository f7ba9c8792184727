/-! numbers -/
theorem u_mulz (a b : Nat) : nI a * nI b = nI (a * b) := pk_mul a b
theorem u_shr {n k : Nat} (h : n < 2 ^ 31) (hk : k < 32) : nI n >>> (nI k &&& 31) = nI (n / 2 ^ k) := pk_shrN h _ k (s_l k hk)
theorem u_shl {n k : Nat} (hk : k < 32) (h : n * 2 ^ k < 2 ^ 32) : nI n <<< (nI k &&& 31) = nI (n * 2 ^ k) := pk_shlN _ k (s_l k hk) h
theorem u_mask (n k : Nat) : nI n &&& nI (2 ^ k - 1) = nI (n % 2 ^ k) := fa_mask n k
theorem bnd_mk {α β : Type} (e : α) (k : α → β) : bnd e k = k e := rfl
theorem pk_s (w : Nat → Nat) (b m : Nat) : pk w b (m + 1) = pk w b m + w m * b ^ m := rfl
theorem nIe {a b : Nat} (h : a = b) : nI a = nI b := by rw [h]
theorem pkz_lt (w : Nat → Nat) (b : Nat) (h : ∀ m, w m < b) : ∀ m, pk w b m < b ^ m
  | 0 => by simp [pk]
  | m + 1 => by
    have ih := pkz_lt w b h m
    have h1 : w m + 1 ≤ b := h m
    have h2 : (w m + 1) * b ^ m ≤ b * b ^ m := Nat.mul_le_mul_right _ h1
    rw [Nat.add_mul, Nat.one_mul] at h2
    have h3 : b ^ (m + 1) = b * b ^ m := Nat.pow_succ'
    rw [pk, h3]
    omega
theorem pkz_cong {w w' : Nat → Nat} (b : Nat) : ∀ {k : Nat}, (∀ m, m < k → w m = w' m) → pk w b k = pk w' b k
  | 0, _ => rfl
  | k + 1, h => by rw [pk, pk, pkz_cong b (fun m hm => h m (by omega)), h k (by omega)]
theorem pkz_ext {w : Nat → Nat} (b : Nat) {n : Nat} (h : ∀ m, n ≤ m → w m = 0) : ∀ {k : Nat}, n ≤ k → pk w b k = pk w b n
  | 0, hk => by have : n = 0 := by omega
                subst this; rfl
  | k + 1, hk => by
    rcases Nat.lt_or_ge k n with q | q
    · have : n = k + 1 := by omega
      subst this; rfl
    · rw [pk, h k q, Nat.zero_mul, Nat.add_zero, pkz_ext b h q]
theorem pkz_dig (w : Nat → Nat) (b : Nat) (hb : 0 < b) (h : ∀ m, w m < b) {m : Nat} : ∀ {k : Nat}, m < k → pk w b k / b ^ m % b = w m
  | 0, hm => absurd hm (Nat.not_lt_zero m)
  | k + 1, hm => by
    rw [pk]
    rcases Nat.lt_or_ge m k with q | q
    · have e : b ^ k = b ^ m * (b * b ^ (k - m - 1)) := by
        rw [← Nat.pow_succ', ← Nat.pow_add]; congr 1; omega
      have e2 : w k * b ^ k = b ^ m * (b * (w k * b ^ (k - m - 1))) := by
        rw [e, Nat.mul_left_comm, Nat.mul_left_comm (w k) b]
      rw [e2, Nat.add_mul_div_left _ _ (Nat.pow_pos hb), Nat.add_mul_mod_self_left]
      exact pkz_dig w b hb h q
    · have e : m = k := by omega
      subst e
      rw [Nat.add_mul_div_right _ _ (Nat.pow_pos hb), Nat.div_eq_of_lt (pkz_lt w b h m), Nat.zero_add, Nat.mod_eq_of_lt (h m)]
theorem pkz_or {w : Nat → Nat} {j : Nat} (h : ∀ m, w m < 2 ^ j) (k v : Nat) : nI (pk w (2 ^ j) k) ||| nI (v * (2 ^ j) ^ k) = nI (pk w (2 ^ j) k + v * (2 ^ j) ^ k) := by
  have h1 := pkz_lt w (2 ^ j) h k
  rw [← Nat.pow_mul] at h1 ⊢
  have := fa_or_sum (a := pk w (2 ^ j) k) (k := j * k) v h1
  rw [fa_or] at this ⊢
  rw [Nat.mul_comm v, Nat.or_comm, Nat.add_comm]
  exact this
/-! the class's house -/
theorem s_warmthOf {w : Nat → Nat} (hw : ∀ m, w m ≤ 20) {m : Nat} (hm : m < 6) : f_X2_warmthOf (nI m) (nI (pk w 32 6)) = some (nI (w m)) := by
  have h1 : pk w 32 6 < 32 ^ 6 := pkz_lt w 32 (fun m => by have := hw m; omega) 6
  unfold f_X2_warmthOf
  rw [show (5 : Int32) = nI 5 from rfl, u_mulz, u_shr (by omega) (by omega), show (31 : Int32) = nI (2 ^ 5 - 1) from rfl, u_mask, Nat.pow_mul]
  rw [show (2 ^ 5 : Nat) = 32 from rfl, pkz_dig w 32 (by omega) (fun m => by have := hw m; omega) hm]
theorem s_isFrozen {w : Nat → Nat} (hw : ∀ m, w m ≤ 20) {m : Nat} (hm : m < 6) : f_X2_isFrozen (nI m) (nI (pk w 32 6)) = some (if w m = 0 then 1 else 0) := by
  unfold f_X2_isFrozen
  rw [s_warmthOf hw hm]
  show (if nI (w m) = 0 then some 1 else some 0) = _
  by_cases h : w m = 0
  · rw [h]; rfl
  · rw [if_neg (nI_ne0 (by omega) (by have := hw m; omega)), if_neg h]
def fzb (w : Nat → Nat) (m : Nat) : Nat := if w m = 0 then 1 else 0
def awb (w : Nat → Nat) (m : Nat) : Nat := if w m = 0 then 0 else 1
theorem fzb_lt (w : Nat → Nat) (m : Nat) : fzb w m < 2 := by unfold fzb; split <;> omega
theorem awb_lt (w : Nat → Nat) (m : Nat) : awb w m < 2 := by unfold awb; split <;> omega
theorem s_frozen_loop {n : Nat} (hn : n ≤ 6) {w : Nat → Nat} (hw : ∀ m, w m ≤ 20) : ∀ (fuel m : Nat), m ≤ n → n - m < fuel → f_X2_frozen_4 (nI n) fuel (nI (pk w 32 6)) (nI (pk (fzb w) 2 m)) (nI m) = some (nI (pk (fzb w) 2 n)) := by
  intro fuel
  induction fuel with
  | zero => intro m h1 h2; omega
  | succ k ih =>
    intro m h1 h2
    show f_X2_frozen_4_b (nI n) (f_X2_frozen_4 (nI n) k) _ _ _ = _
    unfold f_X2_frozen_4_b
    by_cases h : m = n
    · subst h
      rw [if_pos (nI_le (Nat.le_refl m) (by omega))]
    · rw [if_neg (nI_ge (by omega) (by omega)), s_isFrozen hw (by omega), ob1_mk]
      have ih' := ih (m + 1) (by omega) (by omega)
      by_cases hz : w m = 0
      · rw [if_pos hz, if_neg (by decide)]
        unfold f_X2_frozen_26
        have hm6 : 2 ^ m ≤ 2 ^ 6 := Nat.pow_le_pow_right (by omega) (by omega)
        rw [bnd_mk, bnd_mk, show (1 : Int32) = nI 1 from rfl, u_shl (by omega) (by omega), nI_add]
        have e := pkz_or (w := fzb w) (j := 1) (fun m => fzb_lt w m) m 1
        rw [show (2 ^ 1 : Nat) = 2 from rfl] at e
        rw [e]
        rw [pk_s (fzb w) 2 m, show fzb w m = 1 by unfold fzb; rw [if_pos hz]] at ih'
        exact ih'
      · rw [if_neg hz, if_pos rfl]
        unfold f_X2_frozen_26
        rw [bnd_mk, nI_1]
        rw [pk_s (fzb w) 2 m, show fzb w m = 0 by unfold fzb; rw [if_neg hz], Nat.zero_mul, Nat.add_zero] at ih'
        exact ih'
theorem s_frozen {n : Nat} (hn : n ≤ 6) {w : Nat → Nat} (hw : ∀ m, w m ≤ 20) : f_X2_frozen (nI n) (nI (pk w 32 6)) = some (nI (pk (fzb w) 2 n)) :=
  s_frozen_loop hn hw FU 0 (Nat.zero_le n) (by show n - 0 < 20000; omega)
def cnt6 (K : Nat) : Nat := K / 1 % 2 + K / 2 % 2 + K / 4 % 2 + K / 8 % 2 + K / 16 % 2 + K / 32 % 2
theorem s_bitCount : ∀ K, K < 64 → f_J6_bitCount_0f7a4 (nI K) = some (nI (cnt6 K)) := by decide +kernel
def sN (f : Nat → Nat) : Nat → Nat
  | 0 => 0
  | n + 1 => sN f n + f n
theorem cnt6_pk {w : Nat → Nat} (h : ∀ m, w m < 2) : cnt6 (pk w 2 6) = sN w 6 := by
  have d := fun m (hm : m < 6) => pkz_dig w 2 (by omega) h (m := m) (k := 6) hm
  have d0 := d 0 (by omega); have d1 := d 1 (by omega); have d2 := d 2 (by omega); have d3 := d 3 (by omega); have d4 := d 4 (by omega); have d5 := d 5 (by omega)
  simp only [show (2 : Nat) ^ 0 = 1 from rfl, show (2 : Nat) ^ 1 = 2 from rfl, show (2 : Nat) ^ 2 = 4 from rfl, show (2 : Nat) ^ 3 = 8 from rfl, show (2 : Nat) ^ 4 = 16 from rfl, show (2 : Nat) ^ 5 = 32 from rfl] at d0 d1 d2 d3 d4 d5
  unfold cnt6
  rw [d0, d1, d2, d3, d4, d5]
  simp [sN]
theorem sN_cong {f g : Nat → Nat} : ∀ {n : Nat}, (∀ k, k < n → f k = g k) → sN f n = sN g n
  | 0, _ => rfl
  | n + 1, h => by rw [sN, sN, sN_cong (fun k hk => h k (by omega)), h n (by omega)]
/-- cut at n -/
def cutn (n : Nat) (f : Nat → Nat) (m : Nat) : Nat := if m < n then f m else 0
theorem pk_cut (f : Nat → Nat) (b : Nat) {n : Nat} (hn : n ≤ 6) : pk f b n = pk (cutn n f) b 6 := by
  rw [pkz_ext (w := cutn n f) b (n := n) (fun m hm => by unfold cutn; rw [if_neg (by omega)]) hn]
  exact pkz_cong b (fun m hm => by unfold cutn; rw [if_pos hm])
theorem cutn_lt {f : Nat → Nat} {b n : Nat} (hb : 0 < b) (h : ∀ m, f m < b) (m : Nat) : cutn n f m < b := by unfold cutn; split; exact h m; exact hb
theorem sN_cut (f : Nat → Nat) {n : Nat} (hn : n ≤ 6) : sN (cutn n f) 6 = sN f n := by
  have h : ∀ k, n ≤ k → sN (cutn n f) k = sN f n := by
    intro k
    induction k with
    | zero => intro h; have : n = 0 := by omega
              subst this; rfl
    | succ k ih =>
      intro h
      rcases Nat.lt_or_ge k n with q | q
      · have : n = k + 1 := by omega
        subst this
        exact sN_cong (fun j hj => by unfold cutn; rw [if_pos hj])
      · rw [sN, ih q]; unfold cutn; rw [if_neg (by omega)]; rfl
  exact h 6 hn
theorem pk2_lt64 {f : Nat → Nat} (h : ∀ m, f m < 2) {n : Nat} (hn : n ≤ 6) : pk f 2 n < 64 := by
  have h1 := pkz_lt f 2 h n
  have h2 : 2 ^ n ≤ 2 ^ 6 := Nat.pow_le_pow_right (by omega) hn
  omega
theorem s_bits {f : Nat → Nat} (h : ∀ m, f m < 2) {n : Nat} (hn : n ≤ 6) : f_J6_bitCount_0f7a4 (nI (pk f 2 n)) = some (nI (sN f n)) := by
  rw [s_bitCount _ (pk2_lt64 h hn), pk_cut f 2 hn, cnt6_pk (cutn_lt (by omega) h), sN_cut f hn]
theorem sN_le {f : Nat → Nat} (h : ∀ m, f m < 2) : ∀ n, sN f n ≤ n
  | 0 => Nat.le_refl 0
  | n + 1 => by have := sN_le h n; have := h n; rw [sN]; omega
theorem sN_fa (w : Nat → Nat) : ∀ n, sN (fzb w) n + sN (awb w) n = n
  | 0 => rfl
  | n + 1 => by
    have := sN_fa w n
    rw [sN, sN]
    have : fzb w n + awb w n = 1 := by unfold fzb awb; split <;> rfl
    omega
/-- how many are awake -/
theorem s_notFrozen {n : Nat} (hn : n ≤ 6) {w : Nat → Nat} (hw : ∀ m, w m ≤ 20) : f_X2_notFrozen (nI n) (nI (pk w 32 6)) = some (nI (sN (awb w) n)) := by
  unfold f_X2_notFrozen
  rw [s_frozen hn hw, ob1_mk, s_bits (fzb_lt w) hn, ob1_mk, pk_sub (sN_le (fzb_lt w) n)]
  have := sN_fa w n
  rw [show n - sN (fzb w) n = sN (awb w) n by omega]
/-! signed small numbers -/
def iI (z : Int) : Int32 := Int32.ofInt z
theorem iI_toInt {z : Int} (h : -1000000 ≤ z) (h2 : z ≤ 1000000) : (iI z).toInt = z := by
  unfold iI
  rw [Int32.toInt_ofInt]
  exact fb_bmod (by omega) (by omega)
theorem iI_ext {x : Int32} {z : Int} (h : x.toInt = z) : x = iI z := by
  subst h
  unfold iI
  rw [Int32.ofInt_toInt]
theorem iI_add {a b : Int} (ha : -100000 ≤ a) (ha2 : a ≤ 100000) (hb : -100000 ≤ b) (hb2 : b ≤ 100000) : iI a + iI b = iI (a + b) := by
  apply iI_ext
  rw [fb_addI] <;> rw [iI_toInt, iI_toInt] <;> omega
theorem iI_nI (n : Nat) : iI (n : Int) = nI n := by
  unfold iI nI
  rfl
theorem iI_le {a b : Int} (ha : -100000 ≤ a) (ha2 : a ≤ 100000) (hb : -100000 ≤ b) (hb2 : b ≤ 100000) : iI a ≤ iI b ↔ a ≤ b := by
  rw [Int32.le_iff_toInt_le, iI_toInt (by omega) (by omega), iI_toInt (by omega) (by omega)]
theorem iI_lt {a b : Int} (ha : -100000 ≤ a) (ha2 : a ≤ 100000) (hb : -100000 ≤ b) (hb2 : b ≤ 100000) : iI a < iI b ↔ a < b := by
  rw [Int32.lt_iff_toInt_lt, iI_toInt (by omega) (by omega), iI_toInt (by omega) (by omega)]
def sI (f : Nat → Int) : Nat → Int
  | 0 => 0
  | n + 1 => sI f n + f n
theorem sI_cong {f g : Nat → Int} : ∀ {n : Nat}, (∀ k, k < n → f k = g k) → sI f n = sI g n
  | 0, _ => rfl
  | n + 1, h => by rw [sI, sI, sI_cong (fun k hk => h k (by omega)), h n (by omega)]
theorem sI_bd {f : Nat → Int} (h : ∀ k, -1 ≤ f k ∧ f k ≤ 1) : ∀ n : Nat, -(n : Int) ≤ sI f n ∧ sI f n ≤ n
  | 0 => by simp [sI]
  | n + 1 => by have := sI_bd h n; have := h n; rw [sI]; omega
theorem sI_zero {f : Nat → Int} {n : Nat} (h : ∀ m, n ≤ m → f m = 0) : ∀ {k : Nat}, n ≤ k → sI f k = sI f n
  | 0, hk => by have : n = 0 := by omega
                subst this; rfl
  | k + 1, hk => by
    rcases Nat.lt_or_ge k n with q | q
    · have : n = k + 1 := by omega
      subst this; rfl
    · rw [sI, h k q, Int.add_zero, sI_zero h q]
/-- a vote: for it 1, against it -1, frozen 0 -/
def vt (w sd : Nat → Nat) (m : Nat) : Int := if w m = 0 then 0 else if sd m = 1 then 1 else -1
theorem vt_bd (w sd : Nat → Nat) (m : Nat) : -1 ≤ vt w sd m ∧ vt w sd m ≤ 1 := by unfold vt; split; omega; split <;> omega
def vmS (V M : Nat) : Int := ((V / 1 % 2 : Nat) : Int) * (2 * ((M / 1 % 2 : Nat) : Int) - 1) + ((V / 2 % 2 : Nat) : Int) * (2 * ((M / 2 % 2 : Nat) : Int) - 1) + ((V / 4 % 2 : Nat) : Int) * (2 * ((M / 4 % 2 : Nat) : Int) - 1) + ((V / 8 % 2 : Nat) : Int) * (2 * ((M / 8 % 2 : Nat) : Int) - 1) + ((V / 16 % 2 : Nat) : Int) * (2 * ((M / 16 % 2 : Nat) : Int) - 1) + ((V / 32 % 2 : Nat) : Int) * (2 * ((M / 32 % 2 : Nat) : Int) - 1)
theorem vm_all : ∀ V, V < 64 → ∀ M, M < 64 → ((cnt6 (V &&& M) : Nat) : Int) - ((cnt6 (V &&& (63 - M)) : Nat) : Int) = vmS V M ∧ V &&& M < 64 ∧ V &&& (63 - M) < 64 ∧ cnt6 (V &&& M) ≤ 6 ∧ cnt6 (V &&& (63 - M)) ≤ 6 := by decide +kernel
theorem msk_all : ∀ V, V < 64 → ∀ M, M < 64 → nI V &&& (nI M ^^^ (-1)) = nI (V &&& (63 - M)) := by decide +kernel
theorem ev_all : ∀ n, n < 7 → ∀ F, F < 2 ^ n → (((1 : Int32) <<< (nI n &&& 31)) - 1) &&& (nI F ^^^ (-1)) = nI (2 ^ n - 1 - F) := by decide +kernel
theorem fa_pk (w : Nat → Nat) : ∀ n, pk (fzb w) 2 n + pk (awb w) 2 n = 2 ^ n - 1
  | 0 => rfl
  | n + 1 => by
    have ih := fa_pk w n
    have h : fzb w n + awb w n = 1 := by unfold fzb awb; split <;> rfl
    have h2 : fzb w n * 2 ^ n + awb w n * 2 ^ n = 2 ^ n := by rw [← Nat.add_mul, h, Nat.one_mul]
    have h3 : 0 < 2 ^ n := Nat.pow_pos (by omega)
    rw [pk, pk, Nat.pow_succ]
    omega
theorem vm_pk {w sd : Nat → Nat} (hs : ∀ m, sd m ≤ 1) {n : Nat} (hn : n ≤ 6) : vmS (pk (awb w) 2 n) (pk sd 2 6) = sI (vt w sd) n := by
  rw [pk_cut _ _ hn]
  have d := fun m (hm : m < 6) => pkz_dig (cutn n (awb w)) 2 (by omega) (cutn_lt (by omega) (awb_lt w)) (m := m) (k := 6) hm
  have e := fun m (hm : m < 6) => pkz_dig sd 2 (by omega) (fun m => by have := hs m; omega) (m := m) (k := 6) hm
  have d0 := d 0 (by omega); have d1 := d 1 (by omega); have d2 := d 2 (by omega); have d3 := d 3 (by omega); have d4 := d 4 (by omega); have d5 := d 5 (by omega)
  have e0 := e 0 (by omega); have e1 := e 1 (by omega); have e2 := e 2 (by omega); have e3 := e 3 (by omega); have e4 := e 4 (by omega); have e5 := e 5 (by omega)
  simp only [show (2 : Nat) ^ 0 = 1 from rfl, show (2 : Nat) ^ 1 = 2 from rfl, show (2 : Nat) ^ 2 = 4 from rfl, show (2 : Nat) ^ 3 = 8 from rfl, show (2 : Nat) ^ 4 = 16 from rfl, show (2 : Nat) ^ 5 = 32 from rfl] at d0 d1 d2 d3 d4 d5 e0 e1 e2 e3 e4 e5
  unfold vmS
  rw [d0, d1, d2, d3, d4, d5, e0, e1, e2, e3, e4, e5]
  have key : ∀ m, ((cutn n (awb w) m : Nat) : Int) * (2 * ((sd m : Nat) : Int) - 1) = if m < n then vt w sd m else 0 := by
    intro m
    have h1 := hs m
    unfold cutn awb vt
    by_cases c : m < n
    · rw [if_pos c, if_pos c]
      by_cases z : w m = 0
      · rw [if_pos z, if_pos z]; simp
      · rw [if_neg z, if_neg z]
        rcases (show sd m = 0 ∨ sd m = 1 by omega) with q | q <;> rw [q] <;> simp
    · rw [if_neg c, if_neg c]; simp
  rw [key, key, key, key, key, key]
  have h : sI (fun m => if m < n then vt w sd m else 0) 6 = sI (vt w sd) n := by
    rw [sI_zero (n := n) (fun m hm => if_neg (by omega)) hn]
    exact sI_cong (fun k hk => if_pos hk)
  rw [← h]
  simp [sI]
/-- the motion is carried -/
theorem s_isCarried {n : Nat} (hn : n ≤ 6) {w sd : Nat → Nat} (hw : ∀ m, w m ≤ 20) (hs : ∀ m, sd m ≤ 1) : f_X2_isCarried (nI n) (nI (pk sd 2 6)) (nI (pk w 32 6)) = some (if 0 < sI (vt w sd) n then 1 else 0) := by
  unfold f_X2_isCarried f_X2_everybody
  rw [ob1_mk, s_frozen hn hw, ob1_mk, bnd_mk]
  have hF : pk (fzb w) 2 n < 2 ^ n := pkz_lt _ 2 (fzb_lt w) n
  rw [ev_all n (by omega) _ hF]
  have hfa := fa_pk w n
  rw [show 2 ^ n - 1 - pk (fzb w) 2 n = pk (awb w) 2 n by omega]
  have hV : pk (awb w) 2 n < 64 := pk2_lt64 (awb_lt w) hn
  have hM : pk sd 2 6 < 64 := pk2_lt64 (fun m => by have := hs m; omega) (Nat.le_refl 6)
  obtain ⟨h1, h2, h3, h4, h5⟩ := vm_all _ hV _ hM
  rw [fa_and, msk_all _ hV _ hM, s_bitCount _ h2, ob1_mk, s_bitCount _ h3, ob1_mk]
  rw [vm_pk hs hn] at h1
  by_cases c : 0 < sI (vt w sd) n
  · rw [if_pos c, if_neg (nI_ge (by omega) (by omega))]
  · rw [if_neg c, if_pos (nI_le (by omega) (by omega))]
