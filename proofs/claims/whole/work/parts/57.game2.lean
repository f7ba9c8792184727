theorem par0 : ∀ d, d < 6 → nI d - nI d / 2 * 2 = nI (d % 2) := by decide +kernel
theorem s_opens {d : Nat} (hd : d < 6) (pi wo : Nat → Int32) : f_X8_opens pi wo (nI d) = some (upd pi d (-1), upd wo d (nI (d % 2))) := by
  unfold f_X8_opens f_X8_opens_23
  rw [par0 d hd, ing_nI hd (by omega), bnd_mk, ing_nI hd (by omega), ing_nI hd (by omega), nI_clamp (by omega), bnd_mk, bnd_mk]
  rcases (show d % 2 = 0 ∨ d % 2 = 1 by omega) with h | h
  · rw [h, if_pos (show nI 0 = 0 from rfl)]; rfl
  · rw [h, if_neg (show ¬ nI 1 = 0 by decide)]; rfl
theorem s_folds {d g v : Nat} (hd : d < 6) (hg : g ≤ 1) (hv : v ≤ 1) {pi wo : Nat → Int32} (ch : Int32) (hwo : wo d = nI v) : ∃ ch' wo', f_X8_folds pi ch wo (nI d) (nI g) = some (ch', wo') ∧ (∀ j, j ≠ d → wo' j = wo j) ∧ wo' d = nI (if g = 1 - d % 2 then g else v) ∧ ch' = if d = 0 ∧ g = 1 ∧ v = 0 then pi 0 else ch := by
  unfold f_X8_folds f_X8_folds_55 f_X8_folds_49
  have hp := nI_pos (n := d) (by omega)
  rw [par0 d hd, if_neg hp, if_neg hp, ing_nI hd (by omega), ing_nI hd (by omega), nI_clamp (by omega), hwo]
  rcases (show d % 2 = 0 ∨ d % 2 = 1 by omega) with h | h
  · rw [h, if_pos (show nI 0 = 0 from rfl), if_neg (show ¬ nI 0 = 1 by decide)]
    rcases bit_s hg with rfl | rfl
    · rw [if_neg (show ¬ nI 0 = 1 by decide)]
      exact ⟨_, _, rfl, fun j _ => rfl, by rw [if_neg (by omega)]; exact hwo, by rw [if_neg (by omega)]⟩
    · rw [if_pos (show nI 1 = 1 from rfl)]
      rcases bit_s hv with rfl | rfl
      · rw [if_pos (show nI 0 = 0 from rfl), bnd_mk]
        by_cases z : d = 0
        · subst z
          rw [if_pos (show nI 0 = 0 from rfl), ing_ok (by decide)]
          exact ⟨_, _, rfl, fun j hj => upd_n hj, by first | (rw [upd_s, if_pos (by omega)]; rfl) | rw [upd_s, if_pos (by omega)], by rw [if_pos ⟨rfl, rfl, rfl⟩]; rfl⟩
        · rw [if_neg (nI_ne0 (by omega) (by omega))]
          exact ⟨_, _, rfl, fun j hj => upd_n hj, by first | (rw [upd_s, if_pos (by omega)]; rfl) | rw [upd_s, if_pos (by omega)], by rw [if_neg (by omega)]⟩
      · rw [if_neg (show ¬ nI 1 = 0 by decide)]
        exact ⟨_, _, rfl, fun j _ => rfl, by rw [if_pos (by omega)]; exact hwo, by rw [if_neg (by omega)]⟩
  · rw [h, if_neg (show ¬ nI 1 = 0 by decide), if_pos (show nI 1 = 1 from rfl)]
    rcases bit_s hg with rfl | rfl
    · rw [if_pos (show nI 0 = 0 from rfl), ing_nI hd (by omega), bnd_mk]
      exact ⟨_, _, rfl, fun j hj => upd_n hj, by first | (rw [upd_s, if_pos (by omega)]; rfl) | rw [upd_s, if_pos (by omega)], by rw [if_neg (by omega)]⟩
    · rw [if_neg (show ¬ nI 1 = 0 by decide)]
      exact ⟨_, _, rfl, fun j _ => rfl, by rw [if_neg (by omega)]; exact hwo, by rw [if_neg (by omega)]⟩
section
variable {n cold fu : Nat} {S sd : Nat → Nat}
def IT : Nat → Nat
  | 0 => 1
  | k + 1 => 6 * (1 + IT k) + 1
def gw (n cold : Nat) (S : Nat → Nat) (fu : Nat) (sd : Nat → Nat) (k : Nat) (w : Nat → Nat) (s m : Nat) : Bool := opb sd w s m && gv n cold S fu sd k (aft cold S w m fu) m (1 - s) == s
theorem gv_succ (k : Nat) (w : Nat → Nat) (c s : Nat) : gv n cold S fu sd (k + 1) w c s = if anyB (opb sd w s) n = true then (if anyB (gw n cold S fu sd k w s) n = true then s else 1 - s) else gv n cold S fu sd k (aft cold S w c fu) c (1 - s) := rfl
/-- the first winning choice below p, and chosen -/
def CO (n cold : Nat) (S : Nat → Nat) (fu : Nat) (sd : Nat → Nat) (k : Nat) (w : Nat → Nat) (p : Nat) (ch0 ch : Int32) : Prop :=
  (anyB (gw n cold S fu sd k w 1) p = false ∧ ch = ch0) ∨ ∃ m, m < p ∧ gw n cold S fu sd k w 1 m = true ∧ (∀ m', m' < m → gw n cold S fu sd k w 1 m' = false) ∧ ch = nI m
def NC (n cold : Nat) (S : Nat → Nat) (fu : Nat) (sd : Nat → Nat) : Nat → Nat → (Nat → Nat) → Nat → Int32 → Int32 → Prop
  | 0, _, _, _, ch0, ch => ch = ch0
  | k + 1, d, w, c, ch0, ch => (0 < d → ch = ch0) ∧ (d = 0 → (anyB (opb sd w 1) n = true ∧ CO n cold S fu sd k w n ch0 ch) ∨ (anyB (opb sd w 1) n = false ∧ ch = if gv n cold S fu sd k (aft cold S w c fu) c 0 = 1 then 6 else ch0))
end
theorem anyB_ext {f : Nat → Bool} {p : Nat} : ∀ {q : Nat}, p ≤ q → (∀ m, p ≤ m → m < q → f m = false) → anyB f q = anyB f p
  | 0, h, _ => by rw [show p = 0 by omega]
  | q + 1, h, hf => by
    by_cases e : p = q + 1
    · rw [e]
    · rw [anyB, hf q (by omega) (by omega), Bool.or_false, anyB_ext (by omega) (fun m a b => hf m a (by omega))]
theorem anyB_no {f : Nat → Bool} {p : Nat} (h : anyB f p = false) {m : Nat} (hm : m < p) : f m = false := by
  cases e : f m with
  | false => rfl
  | true =>
    have := anyB_iff.mpr ⟨m, hm, e⟩
    rw [h] at this
    exact Bool.noConfusion this
section
variable {n cold fu : Nat} {S sd : Nat → Nat}
/-- the node at depth d, its choices below p behind it -/
def ST (n cold : Nat) (S : Nat → Nat) (fu : Nat) (sd : Nat → Nat) (k d : Nat) (w : Nat → Nat) (c p v : Nat) (ch0 ch : Int32) : Prop :=
  (anyB (opb sd w (1 - d % 2)) n = true ∧ p ≤ 6 ∧ v = (if anyB (gw n cold S fu sd k w (1 - d % 2)) p = true then 1 - d % 2 else 1 - (1 - d % 2)) ∧ (0 < d → ch = ch0) ∧ (d = 0 → CO n cold S fu sd k w p ch0 ch)) ∨ (anyB (opb sd w (1 - d % 2)) n = false ∧ p = 0 ∧ v = 1 - (1 - d % 2) ∧ ch = ch0) ∨ (anyB (opb sd w (1 - d % 2)) n = false ∧ p = 7 ∧ v = gv n cold S fu sd k (aft cold S w c fu) c (1 - (1 - d % 2)) ∧ (0 < d → ch = ch0) ∧ (d = 0 → ch = if gv n cold S fu sd k (aft cold S w c fu) c 0 = 1 then 6 else ch0))
theorem NC_pos {k d : Nat} (hd : 0 < d) {w : Nat → Nat} {c : Nat} {ch0 ch : Int32} (h : NC n cold S fu sd k d w c ch0 ch) : ch = ch0 := by
  cases k with
  | zero => exact h
  | succ k => exact h.1 hd
theorem s_node (hn : n ≤ 6) (hc : cold ≤ 5) (hS : ∀ m, S m < 64) (h6 : ∀ m, 6 ≤ m → S m = 0) (hf : fu ≤ 5) {yq ys s : Nat → Int32} (hy : ∀ m, m < n → yq m = nI (S m)) (hss : ∀ m, m < n → sd m ≤ 1 ∧ ys m = nI (sd m)) (hs7 : s 7 = nI fu) {K : Nat} (hK : K ≤ 5) : ∀ (k d : Nat), d + k = K → ∀ (fuel : Nat) (w : Nat → Nat) (c : Nat) (x3 ch : Int32) (b pi wo : Nat → Int32), IT k ≤ fuel → (∀ m, w m ≤ 20) → (∀ m, n ≤ m → w m = 0) → (c = 6 ∨ c < n) → BRow b d w c → (0 < k → pi d = -1 ∧ wo d = nI (d % 2)) → ∃ fuel' ch' b' pi' wo', fuel ≤ fuel' + IT k ∧ f_X8_playedBy_23 (nI n) (nI cold) yq ys s fuel (nI K) (nI d) x3 ch b pi wo = f_X8_playedBy_87 (nI n) (nI cold) yq ys s (f_X8_playedBy_23 (nI n) (nI cold) yq ys s fuel') (nI K) (nI d) (nI (gv n cold S fu sd k w c (1 - d % 2))) ch' b' pi' wo' ∧ (∀ j, j < 7 * (d + 1) → b' j = b j) ∧ (∀ j, j < d → pi' j = pi j) ∧ (∀ j, j < d → wo' j = wo j) ∧ NC n cold S fu sd k d w c ch ch' := by
  intro k
  induction k with
  | zero =>
    intro d hd fuel w c x3 ch b pi wo hfu hw hz hc6 hb _
    obtain rfl : d = K := by omega
    obtain ⟨f, rfl⟩ : ∃ f, fuel = f + 1 := ⟨fuel - 1, by have : IT 0 = 1 := rfl; omega⟩
    show ∃ fuel' ch' b' pi' wo', _ ∧ f_X8_playedBy_23_b _ _ _ _ _ (f_X8_playedBy_23 (nI n) (nI cold) yq ys s f) _ _ _ _ _ _ _ = _ ∧ _
    unfold f_X8_playedBy_23_b f_X8_playedBy_48
    refine ⟨f, ch, b, pi, wo, Nat.le_refl _, ?_, fun _ _ => rfl, fun _ _ => rfl, fun _ _ => rfl, rfl⟩
    rw [if_neg (nI_pos (by omega)), if_pos rfl, if_pos rfl, if_pos rfl, show (7 : Int32) * nI d = nI (7 * d) from u_mulz 7 d, s_lead hn hw hss (by omega) hb.1, ob1_mk, gv]
    by_cases q : 0 < sI (vt w sd) n
    · rw [if_neg (fun h => (lead_le hn).mp h q), if_pos q]; rfl
    · rw [if_pos ((lead_le hn).mpr q), if_neg q]; rfl
  | succ k ih =>
    intro d hd fuel w c x3 ch b pi wo hfu hw hz hc6 hb h0
    obtain ⟨hp0, hw0⟩ := h0 (by omega)
    have hs' : 1 - (d + 1) % 2 = 1 - (1 - d % 2) := by omega
    have hIT : IT (k + 1) = 6 * (1 + IT k) + 1 := rfl
    have hout : ∀ m, n ≤ m → opb sd w (1 - d % 2) m = false := fun m hm => by simp [opb, hz m hm]
    have hgo : ∀ m, opb sd w (1 - d % 2) m = false → gw n cold S fu sd k w (1 - d % 2) m = false := fun m hm => by unfold gw; rw [hm]; rfl
    have hmul : ∀ p q, p ≤ q → p ≤ 5 → (1 + (6 - (q + 1))) * (1 + IT k) ≤ (6 - p) * (1 + IT k) := fun p q a b => Nat.mul_le_mul_right _ (by omega)
    have inner : ∀ (r p fuel v : Nat) (x3 ch' : Int32) (b' pi' wo' : Nat → Int32), 7 ≤ p + r → p ≤ 7 → (6 - p) * (1 + IT k) + 1 ≤ fuel → (∀ j, j < 7 * (d + 1) → b' j = b j) → (∀ j, j < d → pi' j = pi j) → (∀ j, j < d → wo' j = wo j) → pi' d = iI ((p : Int) - 1) → wo' d = nI v → v ≤ 1 → ST n cold S fu sd k d w c p v ch ch' → ∃ fuel' ch'' b'' pi'' wo'', fuel ≤ fuel' + ((6 - p) * (1 + IT k) + 1) ∧ f_X8_playedBy_23 (nI n) (nI cold) yq ys s fuel (nI K) (nI d) x3 ch' b' pi' wo' = f_X8_playedBy_87 (nI n) (nI cold) yq ys s (f_X8_playedBy_23 (nI n) (nI cold) yq ys s fuel') (nI K) (nI d) (nI (gv n cold S fu sd (k + 1) w c (1 - d % 2))) ch'' b'' pi'' wo'' ∧ (∀ j, j < 7 * (d + 1) → b'' j = b j) ∧ (∀ j, j < d → pi'' j = pi j) ∧ (∀ j, j < d → wo'' j = wo j) ∧ NC n cold S fu sd (k + 1) d w c ch ch'' := by
      -- nothing left to choose: fold
      have fin : ∀ (p f v : Nat) (x3 ch' : Int32) (b' pi' wo' : Nat → Int32) (P : Int32 → Int32 → Int32 → Int32 → (Nat → Int32) → (Nat → Int32) → (Nat → Int32) → Option (Int32 × Int32 × (Nat → Int32) × (Nat → Int32) × (Nat → Int32))), wo' d = nI v → v = gv n cold S fu sd (k + 1) w c (1 - d % 2) → f_X8_choiceBehind (nI n) ys b' (nI d) (pi' d) = some (nI 7) → f_X8_playedBy_23_b (nI n) (nI cold) yq ys s P (nI K) (nI d) x3 ch' b' pi' wo' = f_X8_playedBy_87 (nI n) (nI cold) yq ys s P (nI K) (nI d) (nI (gv n cold S fu sd (k + 1) w c (1 - d % 2))) ch' b' pi' wo' := by
        intro p f v x3 ch' b' pi' wo' P e1 e2 e3
        unfold f_X8_playedBy_23_b f_X8_playedBy_48
        have hne : ¬ nI d = nI K := fun h => by have := (nI_eq (show d < 2 ^ 31 by omega) (show K < 2 ^ 31 by omega)).mp h; omega
        rw [if_neg (nI_pos (by omega)), if_neg hne, ing_nI (by omega) (by omega), nI_clamp (by omega), e3, ob1_mk, if_pos (show nI 7 = 7 from rfl), if_neg hne, ing_nI (by omega) (by omega), e1, e2]
      -- one more choice q: go down, come back, fold
      have down : ∀ (q f v c' : Nat) (x3 ch' : Int32) (b' pi' wo' : Nat → Int32), (q = 6 ∧ c' = c) ∨ (q = c' ∧ q < n) → IT k ≤ f → (∀ j, j < 7 * (d + 1) → b' j = b j) → (∀ j, j < d → pi' j = pi j) → (∀ j, j < d → wo' j = wo j) → wo' d = nI v → v ≤ 1 → f_X8_choiceBehind (nI n) ys b' (nI d) (pi' d) = some (nI q) → ∃ fuel1 ch2 b3 pi3 wo4 x4, f ≤ fuel1 + IT k ∧ f_X8_playedBy_23 (nI n) (nI cold) yq ys s (f + 1) (nI K) (nI d) x3 ch' b' pi' wo' = f_X8_playedBy_23 (nI n) (nI cold) yq ys s fuel1 (nI K) (nI d) x4 ch2 b3 pi3 wo4 ∧ (∀ j, j < 7 * (d + 1) → b3 j = b j) ∧ (∀ j, j < d → pi3 j = pi j) ∧ (∀ j, j < d → wo4 j = wo j) ∧ pi3 d = nI q ∧ wo4 d = nI (if gv n cold S fu sd k (aft cold S w c' fu) c' (1 - (1 - d % 2)) = 1 - d % 2 then gv n cold S fu sd k (aft cold S w c' fu) c' (1 - (1 - d % 2)) else v) ∧ ch2 = if d = 0 ∧ gv n cold S fu sd k (aft cold S w c' fu) c' (1 - (1 - d % 2)) = 1 ∧ v = 0 then nI q else ch' := by
        intro q f v c' x3 ch' b' pi' wo' hqc hfI kb kp kw e1 hv e3
        have hq6 : q ≤ 6 := by omega
        have hne : ¬ nI d = nI K := fun h => by have := (nI_eq (show d < 2 ^ 31 by omega) (show K < 2 ^ 31 by omega)).mp h; omega
        have hb' : BRow b' d w c := hb.keep kb
        have hc6' : c' = 6 ∨ c' < n := by omega
        obtain ⟨b2, f1, f2, f3⟩ := s_goes hn hc hS h6 (c := c') (fun h => hy c' (by omega)) hw hz hf (show d ≤ 5 by omega) hb' (if q = 6 then -9 else nI q) (by
          rcases hqc with ⟨h, h'⟩ | ⟨h, h'⟩
          · exact Or.inl ⟨if_pos h, h'⟩
          · exact Or.inr ⟨by rw [if_neg (by omega), h], by omega⟩)
        have hopen : ∃ pi2 wo2, f_X8_playedBy_23 (nI n) (nI cold) yq ys s (f + 1) (nI K) (nI d) x3 ch' b' pi' wo' = f_X8_playedBy_23 (nI n) (nI cold) yq ys s f (nI K) (nI (d + 1)) x3 ch' b2 pi2 wo2 ∧ pi2 d = nI q ∧ (∀ j, j < d → pi2 j = pi' j) ∧ (∀ j, j ≤ d → wo2 j = wo' j) ∧ (0 < k → pi2 (d + 1) = -1 ∧ wo2 (d + 1) = nI ((d + 1) % 2)) := by
          show ∃ pi2 wo2, f_X8_playedBy_23_b _ _ _ _ _ (f_X8_playedBy_23 (nI n) (nI cold) yq ys s f) _ _ _ _ _ _ _ = _ ∧ _
          unfold f_X8_playedBy_23_b f_X8_playedBy_48 f_X8_playedBy_127 f_X8_playedBy_150
          rw [if_neg (nI_pos (by omega)), if_neg hne, ing_nI (by omega) (by omega), nI_clamp (by omega), e3, ob1_mk, if_neg (show ¬ nI q = 7 from fun h => by have := (nI_eq (b := 7) (show q < 2 ^ 31 by omega) (by omega)).mp h; omega), ing_nI (by omega) (by omega), bnd_mk, show (7 : Int32) * nI d = nI (7 * d) from u_mulz 7 d, ing7, ing7, cl7, hs7]
          have key : (ob1 (f_X8_goes (nI n) (nI cold) yq b' (nI (7 * d)) (if q = 6 then -9 else nI q) (nI fu)) fun m2 => bnd (nI d + 1) fun y4 => if nI K ≤ y4 then f_X8_playedBy_23 (nI n) (nI cold) yq ys s f (nI K) y4 x3 ch' m2 (upd pi' d (nI q)) wo' else ob2 (f_X8_opens (upd pi' d (nI q)) wo' y4) fun m6 m7 => f_X8_playedBy_23 (nI n) (nI cold) yq ys s f (nI K) y4 x3 ch' m2 m6 m7) = if nI K ≤ nI (d + 1) then f_X8_playedBy_23 (nI n) (nI cold) yq ys s f (nI K) (nI (d + 1)) x3 ch' b2 (upd pi' d (nI q)) wo' else ob2 (f_X8_opens (upd pi' d (nI q)) wo' (nI (d + 1))) fun m6 m7 => f_X8_playedBy_23 (nI n) (nI cold) yq ys s f (nI K) (nI (d + 1)) x3 ch' b2 m6 m7 := by
            rw [f1, ob1_mk, bnd_mk, nI_1]
          have lhs : (if nI q = 6 then (ob1 (f_X8_goes (nI n) (nI cold) yq b' (nI (7 * d)) (-9) (nI fu)) fun m2 => bnd (nI d + 1) fun y4 => if nI K ≤ y4 then f_X8_playedBy_23 (nI n) (nI cold) yq ys s f (nI K) y4 x3 ch' m2 (upd pi' d (nI q)) wo' else ob2 (f_X8_opens (upd pi' d (nI q)) wo' y4) fun m6 m7 => f_X8_playedBy_23 (nI n) (nI cold) yq ys s f (nI K) y4 x3 ch' m2 m6 m7) else (ob1 (f_X8_goes (nI n) (nI cold) yq b' (nI (7 * d)) (nI q) (nI fu)) fun m2 => bnd (nI d + 1) fun y4 => if nI K ≤ y4 then f_X8_playedBy_23 (nI n) (nI cold) yq ys s f (nI K) y4 x3 ch' m2 (upd pi' d (nI q)) wo' else ob2 (f_X8_opens (upd pi' d (nI q)) wo' y4) fun m6 m7 => f_X8_playedBy_23 (nI n) (nI cold) yq ys s f (nI K) y4 x3 ch' m2 m6 m7)) = if nI K ≤ nI (d + 1) then f_X8_playedBy_23 (nI n) (nI cold) yq ys s f (nI K) (nI (d + 1)) x3 ch' b2 (upd pi' d (nI q)) wo' else ob2 (f_X8_opens (upd pi' d (nI q)) wo' (nI (d + 1))) fun m6 m7 => f_X8_playedBy_23 (nI n) (nI cold) yq ys s f (nI K) (nI (d + 1)) x3 ch' b2 m6 m7 := by
            rw [← key]
            by_cases h : q = 6
            · rw [if_pos (show nI q = 6 by rw [h]; rfl), if_pos h]
            · rw [if_neg (show ¬ nI q = 6 from fun h' => h ((nI_eq (b := 6) (by omega) (by omega)).mp h')), if_neg h]
          rw [lhs]
          by_cases hk0 : k = 0
          · rw [if_pos (nI_le (by omega) (by omega))]
            exact ⟨_, _, rfl, upd_s, fun j hj => upd_n (by omega), fun _ _ => rfl, fun h => by omega⟩
          · rw [if_neg (nI_ge (by omega) (by omega)), s_opens (by omega), ob2_mk]
            exact ⟨_, _, rfl, by rw [upd_n (by omega), upd_s], fun j hj => by rw [upd_n (by omega), upd_n (by omega)], fun j hj => upd_n (by omega), fun _ => ⟨upd_s, upd_s⟩⟩
        obtain ⟨pi2, wo2, g1, g2, g3, g4, g5⟩ := hopen
        obtain ⟨fuel1, ch1, b3, pi3, wo3, k1, k2, k3, k4, k5, k6⟩ := ih (d + 1) (by omega) f (aft cold S w c' fu) c' x3 ch' b2 pi2 wo2 hfI (fun i => aft_le hw c' fu i) (fun i hi => aft_zero (hz i hi)) hc6' f2 g5
        have hch1 : ch1 = ch' := NC_pos (by omega) k6
        have hgl := gv_le (n := n) (cold := cold) (S := S) (fu := fu) (sd := sd) k (aft cold S w c' fu) c' (1 - (1 - d % 2)) (by omega)
        obtain ⟨ch2, wo4, l1, l2, l3, l4⟩ := s_folds (d := d) (show d < 6 by omega) hgl hv (pi := pi3) (wo := wo3) ch1 (by rw [k5 d (by omega), g4 d (Nat.le_refl d), e1])
        have hdec : nI (d + 1) + (-1) = nI d := by
          rw [← iI_nI, show (-1 : Int32) = iI (-1) from rfl, iI_add (by omega) (by omega) (by omega) (by omega), ← iI_nI]; congr 1; omega
        have h3d : pi3 d = nI q := by rw [k4 d (by omega), g2]
        refine ⟨fuel1, ch2, b3, pi3, wo4, nI (gv n cold S fu sd k (aft cold S w c' fu) c' (1 - (1 - d % 2))), k1, ?_, fun j hj => by rw [k3 j (by omega), f3 j hj, kb j hj], fun j hj => by rw [k4 j (by omega), g3 j hj, kp j hj], fun j hj => by rw [l2 j (by omega), k5 j (by omega), g4 j (by omega), kw j hj], h3d, l3, ?_⟩
        · rw [g1, k2, hs']
          unfold f_X8_playedBy_87 f_X8_playedBy_150
          rw [bnd_mk, hdec, l1, ob2_mk]
        · rw [l4, hch1]
          by_cases h : d = 0 ∧ gv n cold S fu sd k (aft cold S w c' fu) c' (1 - (1 - d % 2)) = 1 ∧ v = 0
          · rw [if_pos h, if_pos h, ← h.1, h3d]
          · rw [if_neg h, if_neg h]
      intro r
      induction r with
      | zero =>
        intro p fuel v x3 ch' b' pi' wo' hr hp hfu kb kp kw e1 e2 hv st
        obtain rfl : p = 7 := by omega
        obtain ⟨f, rfl⟩ : ∃ f, fuel = f + 1 := ⟨fuel - 1, by omega⟩
        rcases st with ⟨_, h, _⟩ | ⟨_, h, _⟩ | ⟨hB, _, hv2, hc1, hc2⟩
        · omega
        · omega
        · obtain ⟨q, e3, hq7, hq⟩ := s_choice hn hw hss (show d < 6 by omega) (hb.keep kb).1 (pv := ((7 : Nat) : Int) - 1) (by omega) (by omega)
          have hq' : q = 7 := by
            rcases hq with ⟨_, h⟩ | ⟨h, _⟩
            · rw [if_pos (by omega)] at h; exact h
            · rw [hB] at h; exact Bool.noConfusion h
          subst hq'
          rw [← e1] at e3
          refine ⟨f, ch', b', pi', wo', by omega, fin 7 f v x3 ch' b' pi' wo' _ e2 (by rw [gv_succ, if_neg (by rw [hB]; decide)]; exact hv2) e3, kb, kp, kw, hc1, fun h => Or.inr ⟨?_, hc2 h⟩⟩
          subst h; exact hB
      | succ r ihr =>
        intro p fuel v x3 ch' b' pi' wo' hr hp hfu kb kp kw e1 e2 hv st
        obtain ⟨f, rfl⟩ : ∃ f, fuel = f + 1 := ⟨fuel - 1, by omega⟩
        obtain ⟨q, e3, hq7, hq⟩ := s_choice hn hw hss (show d < 6 by omega) (hb.keep kb).1 (pv := (p : Int) - 1) (by omega) (by omega)
        rw [← e1] at e3
        rcases st with ⟨hB, hp6, hv2, hc1, hc2⟩ | ⟨hB, hp0', hv2, hcc⟩ | ⟨hB, hp7, hv2, hc1, hc2⟩
        · rcases hq with ⟨h, _⟩ | ⟨_, ⟨hqn, ho, hpq, hno⟩ | ⟨h7, hno⟩⟩
          · rw [hB] at h; exact Bool.noConfusion h
          · have hpq' : p ≤ q := by omega
            have hm6 := hmul p q hpq' (by omega)
            rw [Nat.add_mul] at hm6
            have hG := gv_le (n := n) (cold := cold) (S := S) (fu := fu) (sd := sd) k (aft cold S w q fu) q (1 - (1 - d % 2)) (by omega)
            have hlow : ∀ m, p ≤ m → m < q → gw n cold S fu sd k w (1 - d % 2) m = false := fun m a b => hgo m (hno m b (by omega))
            have hext := anyB_ext (f := gw n cold S fu sd k w (1 - d % 2)) hpq' hlow
            have hgq : gw n cold S fu sd k w (1 - d % 2) q = (gv n cold S fu sd k (aft cold S w q fu) q (1 - (1 - d % 2)) == 1 - d % 2) := by unfold gw; rw [ho, Bool.true_and]
            obtain ⟨fuel1, ch2, b3, pi3, wo4, x4, k1, k2, k3, k4, k5, k6, k7, k8⟩ := down q f v q x3 ch' b' pi' wo' (Or.inr ⟨rfl, hqn⟩) (by omega) kb kp kw e2 hv e3
            obtain ⟨fuel', ch'', b'', pi'', wo'', g1, g2, g3⟩ := ihr (q + 1) fuel1 _ x4 ch2 b3 pi3 wo4 (by omega) (by omega) (by omega) k3 k4 k5 (by rw [k6, ← iI_nI]; congr 1; omega) k7 (by split <;> omega) (Or.inl ⟨hB, by omega, by
              by_cases e : gv n cold S fu sd k (aft cold S w q fu) q (1 - (1 - d % 2)) = 1 - d % 2
              · rw [if_pos e, if_pos (by rw [anyB, hgq, e]; simp)]; exact e
              · rw [if_neg e, anyB, hgq, hext, show (gv n cold S fu sd k (aft cold S w q fu) q (1 - (1 - d % 2)) == 1 - d % 2) = false from by simp [e], Bool.or_false]; exact hv2, fun h => by rw [k8, if_neg (by omega), hc1 h], fun h => by
              subst h
              rcases hc2 rfl with ⟨j1, j2⟩ | ⟨m, j1, j2, j3, j4⟩
              · have hv0 : v = 0 := by rw [hv2, show anyB (gw n cold S fu sd k w (1 - 0 % 2)) p = false from j1, if_neg (by decide)]
                by_cases e : gv n cold S fu sd k (aft cold S w q fu) q (1 - (1 - 0 % 2)) = 1
                · refine Or.inr ⟨q, by omega, hgq.trans (by rw [e]; rfl), fun m' h => ?_, by rw [k8, if_pos ⟨rfl, e, hv0⟩]⟩
                  rcases Nat.lt_or_ge m' p with h' | h'
                  · exact anyB_no j1 h'
                  · exact hlow m' h' h
                · refine Or.inl ⟨?_, by rw [k8, if_neg (fun h => e h.2.1), j2]⟩
                  show (anyB (gw n cold S fu sd k w (1 - 0 % 2)) q || gw n cold S fu sd k w (1 - 0 % 2) q) = false
                  rw [hext, hgq, show anyB (gw n cold S fu sd k w (1 - 0 % 2)) p = false from j1]
                  simp [e]
              · have hv1 : v = 1 := by rw [hv2, if_pos (show anyB (gw n cold S fu sd k w (1 - 0 % 2)) p = true from anyB_iff.mpr ⟨m, j1, j2⟩)]
                exact Or.inr ⟨m, by omega, j2, j3, by rw [k8, if_neg (by omega), j4]⟩⟩)
            exact ⟨fuel', ch'', b'', pi'', wo'', by omega, by rw [k2, g2], g3⟩
          · subst h7
            have hext : anyB (gw n cold S fu sd k w (1 - d % 2)) n = anyB (gw n cold S fu sd k w (1 - d % 2)) p := by
              rcases Nat.le_total p n with h | h
              · exact anyB_ext h (fun m a b => hgo m (hno m b (by omega)))
              · exact (anyB_ext h (fun m a b => hgo m (hout m a))).symm
            refine ⟨f, ch', b', pi', wo', by omega, fin p f v x3 ch' b' pi' wo' _ e2 (by rw [gv_succ, if_pos hB, hext]; exact hv2) e3, kb, kp, kw, hc1, fun h => Or.inl ⟨?_, ?_⟩⟩
            · subst h; exact hB
            · subst h
              rcases hc2 rfl with ⟨g1, g2⟩ | ⟨m, g1, g2, g3, g4⟩
              · exact Or.inl ⟨hext.trans g1, g2⟩
              · refine Or.inr ⟨m, ?_, g2, g3, g4⟩
                rcases Nat.lt_or_ge m n with h | h
                · exact h
                · have := hgo m (hout m h); rw [this] at g2; exact Bool.noConfusion g2
        · have hq' : q = 6 := by
            rcases hq with ⟨_, h⟩ | ⟨h, _⟩
            · rw [if_neg (by omega)] at h; exact h
            · rw [hB] at h; exact Bool.noConfusion h
          subst hq'
          have hm6 := hmul p 6 (by omega) (by omega)
          rw [Nat.add_mul] at hm6
          have hG := gv_le (n := n) (cold := cold) (S := S) (fu := fu) (sd := sd) k (aft cold S w c fu) c (1 - (1 - d % 2)) (by omega)
          obtain ⟨fuel1, ch2, b3, pi3, wo4, x4, k1, k2, k3, k4, k5, k6, k7, k8⟩ := down 6 f v c x3 ch' b' pi' wo' (Or.inl ⟨rfl, rfl⟩) (by omega) kb kp kw e2 hv e3
          obtain ⟨fuel', ch'', b'', pi'', wo'', g1, g2, g3⟩ := ihr 7 fuel1 _ x4 ch2 b3 pi3 wo4 (by omega) (by omega) (by omega) k3 k4 k5 (by rw [k6]; rfl) k7 (by split <;> omega) (Or.inr (Or.inr ⟨hB, rfl, by split <;> omega, fun h => by rw [k8, if_neg (by omega), hcc], fun h => by
            subst h
            rw [k8, hcc]
            by_cases e : gv n cold S fu sd k (aft cold S w c fu) c 0 = 1
            · rw [if_pos e, if_pos ⟨rfl, e, by omega⟩]; rfl
            · rw [if_neg e, if_neg (fun h => e h.2.1)]⟩))
          exact ⟨fuel', ch'', b'', pi'', wo'', by omega, by rw [k2, g2], g3⟩
        · have hq' : q = 7 := by
            rcases hq with ⟨_, h⟩ | ⟨h, _⟩
            · rw [if_pos (by omega)] at h; exact h
            · rw [hB] at h; exact Bool.noConfusion h
          subst hq'
          refine ⟨f, ch', b', pi', wo', by omega, fin p f v x3 ch' b' pi' wo' _ e2 (by rw [gv_succ, if_neg (by rw [hB]; decide)]; exact hv2) e3, kb, kp, kw, hc1, fun h => Or.inr ⟨?_, hc2 h⟩⟩
          subst h; exact hB
    obtain ⟨fuel', ch', b', pi', wo', g1, g2, g3, g4, g5, g6⟩ := inner 7 0 fuel (d % 2) x3 ch b pi wo (by omega) (by omega) (by omega) (fun _ _ => rfl) (fun _ _ => rfl) (fun _ _ => rfl) (by rw [hp0]; rfl) hw0 (by omega) (by
      cases hB : anyB (opb sd w (1 - d % 2)) n with
      | true => exact Or.inl ⟨hB, by omega, by rw [show anyB (gw n cold S fu sd k w (1 - d % 2)) 0 = false from rfl, if_neg (by decide)]; omega, fun _ => rfl, fun _ => Or.inl ⟨rfl, rfl⟩⟩
      | false => exact Or.inr (Or.inl ⟨hB, rfl, by omega, rfl⟩))
    exact ⟨fuel', ch', b', pi', wo', by omega, g2, g3, g4, g5, g6⟩
end
