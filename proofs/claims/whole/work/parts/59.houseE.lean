/-! one item, read by both -/
def IFl (cls : Option (Int32 × Int32 × Int32 × Int32 × Int32 × Int32 × Int32 × Int32 × Int32 × Int32 × Int32 × Int32 × Int32 × Int64)) (ref : Option (Int32 × Int32 × Int32 × Int32 × Int32 × Int32 × Int32 × Int32 × Int32 × Int32 × (Nat → Int32) × (Nat → Int32) × (Nat → Int32))) (yw yq ys : Nat → Int32) : Prop :=
  ∃ (f : Nat) (a1 a2 a4 a5 a6 a7 a8 a9 a10 a11 a12 : Int32) (a13 : Int64), f ≤ 200 ∧ cls = some (0, a1, a2, nI f, a4, a5, a6, a7, a8, a9, a10, a11, a12, a13) ∧ ∃ (r1 r2 r3 r4 d1 d2 d3 d4 d5 : Int32) (yw' yq' ys' : Nat → Int32), ref = some (r1, r2, r3, r4, nI f, d1, d2, d3, d4, d5, yw', yq', ys') ∧ ∀ j, j < 6 → yw' j = yw j ∧ yq' j = yq j ∧ ys' j = ys j
def IG (L : Nat) (t : Nat → Nat) (q0 : Nat) (cls : Option (Int32 × Int32 × Int32 × Int32 × Int32 × Int32 × Int32 × Int32 × Int32 × Int32 × Int32 × Int32 × Int32 × Int64)) (ref : Option (Int32 × Int32 × Int32 × Int32 × Int32 × Int32 × Int32 × Int32 × Int32 × Int32 × (Nat → Int32) × (Nat → Int32) × (Nat → Int32))) (yw yq ys : Nat → Int32) : Prop :=
  ∃ (q p e T : Nat) (V num : Int32) (n : Nat) (w0 sd S : Nat → Nat) (cold fur coughs sc b2 b3 b4 : Nat) (yC yF yG : Int32) (yw' yq' ys' : Nat → Int32), q0 ≤ q ∧ TokR L t q p e ∧ TV L t p e T V ∧ cls = some (if kn L t p = 3 then 1 else 0, nI (kn L t p), num, nI p, nI e, told b2 b3 b4, nI n, nI (pk w0 32 6), nI (pk sd 2 6), nI cold, nI fur, nI coughs, nI sc, lN (pk S 64 6)) ∧ ref = some (nI e, nI T, nI p, V, -1, nI n, nI sc, yC, yF, yG, yw', yq', ys') ∧ DR n w0 sd S cold fur coughs sc b2 b3 b4 yC yF yG yw' yq' ys' ∧ ∀ j, j < 6 → yw' j = yw j ∧ yq' j = yq j ∧ ys' j = ys j
theorem r123F {f : Nat} (hf : f < 1000) (l : Int32) (yt : Nat → Int32) (x k a b c d m s u v w : Int32) (yw yq ys : Nat → Int32) : f_X8_readsItem_123 l yt x k a b c d (nI f) m s u v w yw yq ys = some (a, b, c, d, nI f, m, s + 1, u, v, w, yw, yq, ys) := by
  unfold f_X8_readsItem_123 f_X8_readsItem_149
  rw [m_takeF hf, ob6_mk, well0 hf, ob1_mk, if_pos rfl, bnd_mk]
theorem r122F {f : Nat} (hf : f < 1000) (l : Int32) (yt : Nat → Int32) (x a b c d m s u v w : Int32) (yw yq ys : Nat → Int32) : f_X8_readsItem_122 l yt x a b c d (nI f) m s u v w yw yq ys = some (a, b, c, d, nI f, m, s + 1, u, v, w, yw, yq, ys) := r123F hf l yt x 0 a b c d m s u v w yw yq ys
theorem r122W {f : Nat} (hf : f < 1000) (l : Int32) (yt : Nat → Int32) (x a b d m s u v w : Int32) (yw yq ys : Nat → Int32) : f_X8_readsItem_122 l yt x a b (nI f) d (-1) m s u v w yw yq ys = some (a, b, nI f, d, nI f, m, s + 1, u, v, w, yw, yq, ys) := by
  unfold f_X8_readsItem_122 f_X8_readsItem_123 f_X8_readsItem_149
  rw [m_take0, ob6_mk, well0 hf, ob1_mk, if_pos rfl, bnd_mk]
section
variable {L : Nat} {t : Nat → Nat} {xb yt : Nat → Int32}
theorem s_itemM (h : TX L t xb yt) {q p e T : Nat} {V : Int32} (hT : TokR L t q p e) (hV : TV L t p e T V) {n : Nat} {w0 sd S : Nat → Nat} {cold fur coughs sc b2 b3 b4 : Nat} {yC yF yG : Int32} {yw yq ys : Nat → Int32} (hD : DR n w0 sd S cold fur coughs sc b2 b3 b4 yC yF yG yw yq ys) (tok num pl : Int32) (hn : n < 6) : IFl (f_X6_readItem (nI L) xb tok num pl (nI q) (told b2 b3 b4) (nI n) (nI (pk w0 32 6)) (nI (pk sd 2 6)) (nI cold) (nI fur) (nI coughs) (nI sc) (lN (pk S 64 6)) (nI 0)) (f_X8_readsItem (nI L) yt (nI e) (nI T) (nI p) V (-1) (nI n) (nI sc) yC yF yG yw yq ys (nI 0)) yw yq ys ∨ IG L t q (f_X6_readItem (nI L) xb tok num pl (nI q) (told b2 b3 b4) (nI n) (nI (pk w0 32 6)) (nI (pk sd 2 6)) (nI cold) (nI fur) (nI coughs) (nI sc) (lN (pk S 64 6)) (nI 0)) (f_X8_readsItem (nI L) yt (nI e) (nI T) (nI p) V (-1) (nI n) (nI sc) yC yF yG yw yq ys (nI 0)) yw yq ys := by
  obtain ⟨hWf, ⟨hb2, hb3, hb4⟩, ⟨hyC, hC0⟩, ⟨hyF, hF0⟩, ⟨hyG, hG0⟩, hrow⟩ := hD
  obtain ⟨hn6, hw0, hwz, hs1, hsz, hS, hSz, hc5, hf5, hg9, hsc⟩ := hWf
  have hL := h.1
  obtain ⟨hqp, hpL, _, _, _, he, _⟩ := id hT
  have hvl := vl_le (L := L) (t := t) p e
  have hne6 : ¬ (6 : Int32) ≤ nI n := nI_ge (b := 6) hn (by omega)
  by_cases ok1 : (1 : Int32) ≤ nI (vl L t p e) ∧ nI (vl L t p e) ≤ 20
  · obtain ⟨p2, e2, T2, V2, hT2, hV2, e4⟩ := m_num1 h he hV (show (20 : Int32) < 100 by decide) ok1
    obtain ⟨hep2, hp2L, _, _, _, he2, _⟩ := id hT2
    have hvl2 := vl_le (L := L) (t := t) p2 e2
    have hv20 : vl L t p e ≤ 20 := (nI_leI (by omega) (b := 20) (by omega)).mp ok1.2
    by_cases ok2 : (0 : Int32) ≤ nI (vl L t p2 e2) ∧ nI (vl L t p2 e2) ≤ 1
    · obtain ⟨p3, e3, T3, V3, hT3, hV3, e5⟩ := m_num1 h he2 hV2 (show (1 : Int32) < 100 by decide) ok2
      have hv1 : vl L t p2 e2 ≤ 1 := (nI_leI (by omega) (b := 1) (by omega)).mp ok2.2
      have hc : f_X6_readItem (nI L) xb tok num pl (nI q) (told b2 b3 b4) (nI n) (nI (pk w0 32 6)) (nI (pk sd 2 6)) (nI cold) (nI fur) (nI coughs) (nI sc) (lN (pk S 64 6)) (nI 0) = some (if kn L t p3 = 3 then 1 else 0, nI (kn L t p3), nI (vl L t p2 e2), nI p3, nI e3, told b2 b3 b4, nI (n + 1), nI (pk (pt w0 n (vl L t p e)) 32 6), nI (pk (pt sd n (vl L t p2 e2)) 2 6), nI cold, nI fur, nI coughs, nI sc, lN (pk S 64 6)) := by
        unfold f_X6_readItem f_X6_readMember
        rw [if_pos (show nI 0 = 0 from rfl), if_neg hne6, s_num6 h hT, ob5_mk, if_neg (i10 ok1), s_num6 h hT2, ob5_mk, if_neg (i10 ok2), s_addMember hn hv20 hv1 hw0 hwz hs1 hsz, ob3_mk, s_semi6 h hT3, ob4_mk, zbg_i, ob8_mk, zbg_i]
      have hr : f_X8_readsItem (nI L) yt (nI e) (nI T) (nI p) V (-1) (nI n) (nI sc) yC yF yG yw yq ys (nI 0) = some (nI e3, nI T3, nI p3, V3, -1, nI (n + 1), nI sc, yC, yF, yG, upd yw (6 + n) (nI (vl L t p e)), upd yq (6 + n) 0, upd ys (6 + n) (nI (vl L t p2 e2))) := by
        unfold f_X8_readsItem
        rw [if_pos (show nI 0 = 0 from rfl), e4, ob6_mk, cls6 hn, nI_clamp (by omega), ing_nI (by omega) (by omega), bnd_mk, e5, ob6_mk, ing_nI (by omega) (by omega), bnd_mk, ing_nI (by omega) (by omega), bnd_mk, bnd_mk, nI_1]
      refine Or.inr ⟨e2, p3, e3, T3, V3, _, n + 1, _, _, S, cold, fur, coughs, sc, b2, b3, b4, yC, yF, yG, _, _, _, by have := hT.2.2.2.2.1; omega, hT3, hV3, hc, hr, ⟨⟨by omega, fun m => ?_, fun m hm => by rw [pt_n (by omega)]; exact hwz m (by omega), fun m => ?_, fun m hm => by rw [pt_n (by omega)]; exact hsz m (by omega), hS, fun m hm => hSz m (by omega), hc5, hf5, hg9, hsc⟩, ⟨hb2, hb3, hb4⟩, ⟨hyC, hC0⟩, ⟨hyF, hF0⟩, ⟨hyG, hG0⟩, fun m hm => ?_⟩, fun j hj => ⟨upd_n (by omega), upd_n (by omega), upd_n (by omega)⟩⟩
      · by_cases c : m = n
        · rw [c, pt_s]; exact hv20
        · rw [pt_n c]; exact hw0 m
      · by_cases c : m = n
        · rw [c, pt_s]; exact hv1
        · rw [pt_n c]; exact hs1 m
      · by_cases c : m = n
        · subst c
          rw [upd_s, upd_s, upd_s, pt_s, pt_s, hSz m (Nat.le_refl m)]
          exact ⟨rfl, rfl, rfl⟩
        · rw [upd_n (by omega), upd_n (by omega), upd_n (by omega), pt_n c, pt_n c]
          exact hrow m (by omega)
    · have e5 := m_num0 (yt := yt) hV2 ok2
      have hc : f_X6_readItem (nI L) xb tok num pl (nI q) (told b2 b3 b4) (nI n) (nI (pk w0 32 6)) (nI (pk sd 2 6)) (nI cold) (nI fur) (nI coughs) (nI sc) (lN (pk S 64 6)) (nI 0) = some (0, nI (kn L t p2), nI (vl L t p2 e2), nI p2, nI e2, told b2 b3 b4, nI n, nI (pk w0 32 6), nI (pk sd 2 6), nI cold, nI fur, nI coughs, nI sc, lN (pk S 64 6)) := by
        unfold f_X6_readItem f_X6_readMember
        rw [if_pos (show nI 0 = 0 from rfl), if_neg hne6, s_num6 h hT, ob5_mk, if_neg (i10 ok1), s_num6 h hT2, ob5_mk, if_pos (i00 ok2), ob8_mk, zbg_01 (Or.inl rfl)]
      have hr : f_X8_readsItem (nI L) yt (nI e) (nI T) (nI p) V (-1) (nI n) (nI sc) yC yF yG yw yq ys (nI 0) = some (nI e2, nI T2, nI p2, V2, nI p2, nI (n + 1), nI sc, yC, yF, yG, upd yw (6 + n) (nI (vl L t p e)), upd yq (6 + n) 0, upd ys (6 + n) 0) := by
        unfold f_X8_readsItem
        rw [if_pos (show nI 0 = 0 from rfl), e4, ob6_mk, cls6 hn, nI_clamp (by omega), ing_nI (by omega) (by omega), bnd_mk, e5, ob6_mk, ing_nI (by omega) (by omega), bnd_mk, ing_nI (by omega) (by omega), bnd_mk, bnd_mk, nI_1]
      exact Or.inl ⟨p2, _, _, _, _, _, _, _, _, _, _, _, _, by omega, hc, _, _, _, _, _, _, _, _, _, _, _, _, hr, fun j hj => ⟨upd_n (by omega), upd_n (by omega), upd_n (by omega)⟩⟩
  · have e4 := m_num0 (yt := yt) hV ok1
    have hc : f_X6_readItem (nI L) xb tok num pl (nI q) (told b2 b3 b4) (nI n) (nI (pk w0 32 6)) (nI (pk sd 2 6)) (nI cold) (nI fur) (nI coughs) (nI sc) (lN (pk S 64 6)) (nI 0) = some (0, nI (kn L t p), nI (vl L t p e), nI p, nI e, told b2 b3 b4, nI n, nI (pk w0 32 6), nI (pk sd 2 6), nI cold, nI fur, nI coughs, nI sc, lN (pk S 64 6)) := by
      unfold f_X6_readItem f_X6_readMember
      rw [if_pos (show nI 0 = 0 from rfl), if_neg hne6, s_num6 h hT, ob5_mk, if_pos (i00 ok1), ob8_mk, zbg_01 (Or.inl rfl)]
    have hr : f_X8_readsItem (nI L) yt (nI e) (nI T) (nI p) V (-1) (nI n) (nI sc) yC yF yG yw yq ys (nI 0) = some (nI e, nI T, nI p, V, nI p, nI (n + 1), nI sc, yC, yF, yG, upd yw (6 + n) 0, upd yq (6 + n) 0, upd ys (6 + n) 0) := by
      unfold f_X8_readsItem
      rw [if_pos (show nI 0 = 0 from rfl), e4, ob6_mk, cls6 hn, nI_clamp (by omega), ing_nI (by omega) (by omega), bnd_mk, m_numF (f := p) (by omega), ob6_mk, ing_nI (by omega) (by omega), bnd_mk, ing_nI (by omega) (by omega), bnd_mk, bnd_mk, nI_1]
    exact Or.inl ⟨p, _, _, _, _, _, _, _, _, _, _, _, _, by omega, hc, _, _, _, _, _, _, _, _, _, _, _, _, hr, fun j hj => ⟨upd_n (by omega), upd_n (by omega), upd_n (by omega)⟩⟩
theorem s_itemS (h : TX L t xb yt) {q p e T : Nat} {V : Int32} (hT : TokR L t q p e) (hV : TV L t p e T V) {n : Nat} {w0 sd S : Nat → Nat} {cold fur coughs sc b2 b3 b4 : Nat} {yC yF yG : Int32} {yw yq ys : Nat → Int32} (hD : DR n w0 sd S cold fur coughs sc b2 b3 b4 yC yF yG yw yq ys) (tok num pl : Int32) (hsc8 : sc < 8) : IFl (f_X6_readItem (nI L) xb tok num pl (nI q) (told b2 b3 b4) (nI n) (nI (pk w0 32 6)) (nI (pk sd 2 6)) (nI cold) (nI fur) (nI coughs) (nI sc) (lN (pk S 64 6)) (nI 1)) (f_X8_readsItem (nI L) yt (nI e) (nI T) (nI p) V (-1) (nI n) (nI sc) yC yF yG yw yq ys (nI 1)) yw yq ys ∨ IG L t q (f_X6_readItem (nI L) xb tok num pl (nI q) (told b2 b3 b4) (nI n) (nI (pk w0 32 6)) (nI (pk sd 2 6)) (nI cold) (nI fur) (nI coughs) (nI sc) (lN (pk S 64 6)) (nI 1)) (f_X8_readsItem (nI L) yt (nI e) (nI T) (nI p) V (-1) (nI n) (nI sc) yC yF yG yw yq ys (nI 1)) yw yq ys := by
  obtain ⟨hWf, ⟨hb2, hb3, hb4⟩, ⟨hyC, hC0⟩, ⟨hyF, hF0⟩, ⟨hyG, hG0⟩, hrow⟩ := hD
  obtain ⟨hn6, hw0, hwz, hs1, hsz, hS, hSz, hc5, hf5, hg9, hsc⟩ := hWf
  have hL := h.1
  obtain ⟨hqp, hpL, _, _, _, he, _⟩ := id hT
  have hvl := vl_le (L := L) (t := t) p e
  have hne8 : ¬ (8 : Int32) ≤ nI sc := nI_ge (b := 8) hsc8 (by omega)
  have hn0 : ¬ nI 1 = 0 := by decide
  have hsm := nI_sm1 n (by omega)
  by_cases ok1 : (0 : Int32) ≤ nI (vl L t p e) ∧ nI (vl L t p e) ≤ nI n - 1
  · obtain ⟨p2, e2, T2, V2, hT2, hV2, e4⟩ := m_num1 h he hV hsm ok1
    obtain ⟨hep2, hp2L, _, _, _, he2, _⟩ := id hT2
    have hvl2 := vl_le (L := L) (t := t) p2 e2
    have hva : vl L t p e < n := (nI_small n (by omega) _ (by omega)).mp ok1
    by_cases ok2 : (0 : Int32) ≤ nI (vl L t p2 e2) ∧ nI (vl L t p2 e2) ≤ nI n - 1
    · have hvb : vl L t p2 e2 < n := (nI_small n (by omega) _ (by omega)).mp ok2
      obtain ⟨rfl, rfl⟩ : T2 = 2 ∧ V2 = nI (vl L t p2 e2) := by
        obtain ⟨_, _, _, hN, _⟩ := id hV2
        rcases hN with ⟨g1, g2, _⟩ | ⟨_, g⟩
        · exact ⟨g1, g2⟩
        · omega
      by_cases c : vl L t p2 e2 = vl L t p e
      · have hc : f_X6_readItem (nI L) xb tok num pl (nI q) (told b2 b3 b4) (nI n) (nI (pk w0 32 6)) (nI (pk sd 2 6)) (nI cold) (nI fur) (nI coughs) (nI sc) (lN (pk S 64 6)) (nI 1) = some (0, nI (kn L t p2), nI (vl L t p2 e2), nI p2, nI e2, told b2 b3 b4, nI n, nI (pk w0 32 6), nI (pk sd 2 6), nI cold, nI fur, nI coughs, nI sc, lN (pk S 64 6)) := by
          unfold f_X6_readItem f_X6_readSeconds
          rw [if_neg hn0, if_pos (show nI 1 = 1 from rfl), if_neg hne8, s_num6 h hT, ob5_mk, if_neg (i10 ok1), s_num6 h hT2, ob5_mk, if_neg (i10 ok2), if_pos (show nI (vl L t p2 e2) = nI (vl L t p e) by rw [c]), ob7_mk, zbg_01 (Or.inl rfl)]
        have hr : f_X8_readsItem (nI L) yt (nI e) (nI T) (nI p) V (-1) (nI n) (nI sc) yC yF yG yw yq ys (nI 1) = some (nI e2, nI 2, nI p2, nI (vl L t p2 e2), nI p2, nI n, nI sc + 1, yC, yF, yG, yw, yq, ys) := by
          unfold f_X8_readsItem
          rw [if_neg hn0, if_pos (show nI 1 = 1 from rfl), e4, ob6_mk, if_pos (show nI 2 = 2 from rfl), s_in, ob1_mk, if_neg (i10 ok2), if_pos (show nI (vl L t p2 e2) = nI (vl L t p e) by rw [c]), r122W (f := p2) (by omega)]
        exact Or.inl ⟨p2, _, _, _, _, _, _, _, _, _, _, _, _, by omega, hc, _, _, _, _, _, _, _, _, _, _, _, _, hr, fun j hj => ⟨rfl, rfl, rfl⟩⟩
      · have hcne : ¬ nI (vl L t p2 e2) = nI (vl L t p e) := fun z => c ((nI_eq (by omega) (by omega)).mp z)
        obtain ⟨p3, e3, T3, V3, hT3, hV3, e5⟩ := m_take1 h he2 (nI 2) (nI p2) (nI (vl L t p2 e2))
        have hc : f_X6_readItem (nI L) xb tok num pl (nI q) (told b2 b3 b4) (nI n) (nI (pk w0 32 6)) (nI (pk sd 2 6)) (nI cold) (nI fur) (nI coughs) (nI sc) (lN (pk S 64 6)) (nI 1) = some (if kn L t p3 = 3 then 1 else 0, nI (kn L t p3), nI (vl L t p2 e2), nI p3, nI e3, told b2 b3 b4, nI n, nI (pk w0 32 6), nI (pk sd 2 6), nI cold, nI fur, nI coughs, nI (sc + 1), lN (pk (pt S (vl L t p2 e2) (S (vl L t p2 e2) ||| 2 ^ vl L t p e)) 64 6)) := by
          unfold f_X6_readItem f_X6_readSeconds
          rw [if_neg hn0, if_pos (show nI 1 = 1 from rfl), if_neg hne8, s_num6 h hT, ob5_mk, if_neg (i10 ok1), s_num6 h hT2, ob5_mk, if_neg (i10 ok2), if_neg hcne, s_addSeconds (by omega) (by omega) hS, ob2_mk, s_semi6 h hT3, ob4_mk, zbg_i, ob7_mk, zbg_i]
        have hr : f_X8_readsItem (nI L) yt (nI e) (nI T) (nI p) V (-1) (nI n) (nI sc) yC yF yG yw yq ys (nI 1) = some (nI e3, nI T3, nI p3, V3, -1, nI n, nI (sc + 1), yC, yF, yG, yw, upd yq (6 + vl L t p2 e2) (yq (6 + vl L t p2 e2) ||| ((1 : Int32) <<< (nI (vl L t p e) &&& 31))), ys) := by
          unfold f_X8_readsItem
          rw [if_neg hn0, if_pos (show nI 1 = 1 from rfl), e4, ob6_mk, if_pos (show nI 2 = 2 from rfl), s_in, ob1_mk, if_neg (i10 ok2), if_neg hcne]
          unfold f_X8_readsItem_123 f_X8_readsItem_149
          rw [e5, ob6_mk, well1, ob1_mk, if_neg n10, cls6 (show vl L t p2 e2 < 6 by omega), nI_clamp (by omega), ing_nI (by omega) (by omega), ing_nI (by omega) (by omega), bnd_mk, bnd_mk, nI_1]
        have hor : yq (6 + vl L t p2 e2) ||| ((1 : Int32) <<< (nI (vl L t p e) &&& 31)) = nI (S (vl L t p2 e2) ||| 2 ^ vl L t p e) := by
          have h1 : 2 ^ vl L t p e ≤ 2 ^ 5 := Nat.pow_le_pow_right (by omega) (by omega)
          rw [(hrow _ hvb).2.2, show (1 : Int32) = nI 1 from rfl, u_shl (by omega) (by omega), Nat.one_mul, n_or]
        refine Or.inr ⟨e2, p3, e3, T3, V3, _, n, w0, sd, _, cold, fur, coughs, sc + 1, b2, b3, b4, yC, yF, yG, _, _, _, by have := hT.2.2.2.2.1; omega, hT3, hV3, hc, hr, ⟨⟨by omega, hw0, hwz, hs1, hsz, fun m => ?_, fun m hm => by rw [pt_n (by omega)]; exact hSz m (by omega), hc5, hf5, hg9, by omega⟩, ⟨hb2, hb3, hb4⟩, ⟨hyC, hC0⟩, ⟨hyF, hF0⟩, ⟨hyG, hG0⟩, fun m hm => ⟨(hrow m hm).1, (hrow m hm).2.1, ?_⟩⟩, fun j hj => ⟨rfl, upd_n (by omega), rfl⟩⟩
        · by_cases g : m = vl L t p2 e2
          · rw [g, pt_s]; exact or_lt64 (hS _) (by omega)
          · rw [pt_n g]; exact hS m
        · by_cases g : m = vl L t p2 e2
          · rw [g, upd_s, pt_s, hor]
          · rw [upd_n (by omega), pt_n g]; exact (hrow m hm).2.2
    · have hc : f_X6_readItem (nI L) xb tok num pl (nI q) (told b2 b3 b4) (nI n) (nI (pk w0 32 6)) (nI (pk sd 2 6)) (nI cold) (nI fur) (nI coughs) (nI sc) (lN (pk S 64 6)) (nI 1) = some (0, nI (kn L t p2), nI (vl L t p2 e2), nI p2, nI e2, told b2 b3 b4, nI n, nI (pk w0 32 6), nI (pk sd 2 6), nI cold, nI fur, nI coughs, nI sc, lN (pk S 64 6)) := by
        unfold f_X6_readItem f_X6_readSeconds
        rw [if_neg hn0, if_pos (show nI 1 = 1 from rfl), if_neg hne8, s_num6 h hT, ob5_mk, if_neg (i10 ok1), s_num6 h hT2, ob5_mk, if_pos (i00 ok2), ob7_mk, zbg_01 (Or.inl rfl)]
      have hr : f_X8_readsItem (nI L) yt (nI e) (nI T) (nI p) V (-1) (nI n) (nI sc) yC yF yG yw yq ys (nI 1) = some (nI e2, nI T2, nI p2, V2, nI p2, nI n, nI sc + 1, yC, yF, yG, yw, yq, ys) := by
        obtain ⟨hT4, _, _, hN, _⟩ := hV2
        unfold f_X8_readsItem
        rw [if_neg hn0, if_pos (show nI 1 = 1 from rfl), e4, ob6_mk]
        rcases hN with ⟨rfl, rfl, _⟩ | ⟨g, _⟩
        · rw [if_pos (show nI 2 = 2 from rfl), s_in, ob1_mk, if_pos (i00 ok2), r122W (f := p2) (by omega)]
        · rw [if_neg (show ¬ nI T2 = 2 from fun z => g ((nI_eq (b := 2) (by omega) (by omega)).mp z)), r122W (f := p2) (by omega)]
      exact Or.inl ⟨p2, _, _, _, _, _, _, _, _, _, _, _, _, by omega, hc, _, _, _, _, _, _, _, _, _, _, _, _, hr, fun j hj => ⟨rfl, rfl, rfl⟩⟩
  · have e4 := m_num0 (yt := yt) hV ok1
    have hc : f_X6_readItem (nI L) xb tok num pl (nI q) (told b2 b3 b4) (nI n) (nI (pk w0 32 6)) (nI (pk sd 2 6)) (nI cold) (nI fur) (nI coughs) (nI sc) (lN (pk S 64 6)) (nI 1) = some (0, nI (kn L t p), nI (vl L t p e), nI p, nI e, told b2 b3 b4, nI n, nI (pk w0 32 6), nI (pk sd 2 6), nI cold, nI fur, nI coughs, nI sc, lN (pk S 64 6)) := by
      unfold f_X6_readItem f_X6_readSeconds
      rw [if_neg hn0, if_pos (show nI 1 = 1 from rfl), if_neg hne8, s_num6 h hT, ob5_mk, if_pos (i00 ok1), ob7_mk, zbg_01 (Or.inl rfl)]
    have hr : f_X8_readsItem (nI L) yt (nI e) (nI T) (nI p) V (-1) (nI n) (nI sc) yC yF yG yw yq ys (nI 1) = some (nI e, nI T, nI p, V, nI p, nI n, nI sc + 1, yC, yF, yG, yw, yq, ys) := by
      unfold f_X8_readsItem
      rw [if_neg hn0, if_pos (show nI 1 = 1 from rfl), e4, ob6_mk, s_in, ob1_mk, r122F (f := p) (by omega), r123F (f := p) (by omega), ite_self, ite_self, ite_self]
    exact Or.inl ⟨p, _, _, _, _, _, _, _, _, _, _, _, _, by omega, hc, _, _, _, _, _, _, _, _, _, _, _, _, hr, fun j hj => ⟨rfl, rfl, rfl⟩⟩
theorem s_itemO2 (h : TX L t xb yt) {q p e T : Nat} {V : Int32} (hT : TokR L t q p e) (hV : TV L t p e T V) {n : Nat} {w0 sd S : Nat → Nat} {cold fur coughs sc b2 b3 b4 : Nat} {yC yF yG : Int32} {yw yq ys : Nat → Int32} (hD : DR n w0 sd S cold fur coughs sc b2 b3 b4 yC yF yG yw yq ys) (tok num pl : Int32) (hb0 : b2 = 0) : IFl (f_X6_readItem (nI L) xb tok num pl (nI q) (told b2 b3 b4) (nI n) (nI (pk w0 32 6)) (nI (pk sd 2 6)) (nI cold) (nI fur) (nI coughs) (nI sc) (lN (pk S 64 6)) (nI 2)) (f_X8_readsItem (nI L) yt (nI e) (nI T) (nI p) V (-1) (nI n) (nI sc) yC yF yG yw yq ys (nI 2)) yw yq ys ∨ IG L t q (f_X6_readItem (nI L) xb tok num pl (nI q) (told b2 b3 b4) (nI n) (nI (pk w0 32 6)) (nI (pk sd 2 6)) (nI cold) (nI fur) (nI coughs) (nI sc) (lN (pk S 64 6)) (nI 2)) (f_X8_readsItem (nI L) yt (nI e) (nI T) (nI p) V (-1) (nI n) (nI sc) yC yF yG yw yq ys (nI 2)) yw yq ys := by
  obtain ⟨hWf, ⟨hb2, hb3, hb4⟩, ⟨hyC, hC0⟩, ⟨hyF, hF0⟩, ⟨hyG, hG0⟩, hrow⟩ := hD
  obtain ⟨hn6, hw0, hwz, hs1, hsz, hS, hSz, hc5, hf5, hg9, hsc⟩ := hWf
  have hL := h.1
  obtain ⟨hqp, hpL, _, _, _, he, _⟩ := id hT
  have hvl := vl_le (L := L) (t := t) p e
  have tl := told_all b2 (by omega) b3 (by omega) b4 (by omega)
  have t1 := tl.1.mpr hb0
  have t2 := tl.2.2.2.1 hb0
  have hmo : f_X6_mostOf (nI 2) = some 5 := by decide
  by_cases ok1 : (0 : Int32) ≤ nI (vl L t p e) ∧ nI (vl L t p e) ≤ 5
  · obtain ⟨p2, e2, T2, V2, hT2, hV2, e4⟩ := m_num1 h he hV (show (5 : Int32) < 100 by decide) ok1
    have hle : vl L t p e ≤ 5 := (nI_leI (by omega) (b := 5) (by omega)).mp ok1.2
    have hc : f_X6_readItem (nI L) xb tok num pl (nI q) (told b2 b3 b4) (nI n) (nI (pk w0 32 6)) (nI (pk sd 2 6)) (nI cold) (nI fur) (nI coughs) (nI sc) (lN (pk S 64 6)) (nI 2) = some (if kn L t p2 = 3 then 1 else 0, nI (kn L t p2), nI (vl L t p e), nI p2, nI e2, told 1 b3 b4, nI n, nI (pk w0 32 6), nI (pk sd 2 6), nI (vl L t p e), nI fur, nI coughs, nI sc, lN (pk S 64 6)) := by
      unfold f_X6_readItem f_X6_readItem_48 f_X6_readOnce f_X6_readOnce_77
      rw [if_neg (show ¬ nI 2 = 0 by decide), if_neg (show ¬ nI 2 = 1 by decide), if_pos (show nI 2 = 2 from rfl), bnd_mk, if_pos t1, hmo, ob1_mk, s_num6 h hT, ob5_mk, if_neg (i10 ok1), bnd_mk, t2, if_pos (show nI 2 = 2 from rfl), s_semi6 h hT2, ob4_mk, zbg_i, ob9_mk, zbg_i]
    have hr : f_X8_readsItem (nI L) yt (nI e) (nI T) (nI p) V (-1) (nI n) (nI sc) yC yF yG yw yq ys (nI 2) = some (nI e2, nI T2, nI p2, V2, -1, nI n, nI sc, (nI (vl L t p e)), yF, yG, yw, yq, ys) := by
      unfold f_X8_readsItem
      rw [if_neg (show ¬ nI 2 = 0 by decide), if_neg (show ¬ nI 2 = 1 by decide), if_pos (show nI 2 = 2 from rfl), e4, ob6_mk]
    exact Or.inr ⟨e, p2, e2, T2, V2, _, n, w0, sd, S, (vl L t p e), fur, coughs, sc, 1, b3, b4, (nI (vl L t p e)), yF, yG, yw, yq, ys, by have := hT.2.2.2.2.1; omega, hT2, hV2, hc, hr, ⟨⟨hn6, hw0, hwz, hs1, hsz, hS, hSz, hle, hf5, hg9, hsc⟩, ⟨by omega, hb3, hb4⟩, ⟨(if_neg (by omega)).symm, fun z => by omega⟩, ⟨hyF, hF0⟩, ⟨hyG, hG0⟩, hrow⟩, fun j hj => ⟨rfl, rfl, rfl⟩⟩
  · have e4 := m_num0 (yt := yt) hV ok1
    have hc : f_X6_readItem (nI L) xb tok num pl (nI q) (told b2 b3 b4) (nI n) (nI (pk w0 32 6)) (nI (pk sd 2 6)) (nI cold) (nI fur) (nI coughs) (nI sc) (lN (pk S 64 6)) (nI 2) = some (0, nI (kn L t p), nI (vl L t p e), nI p, nI e, told b2 b3 b4, nI n, nI (pk w0 32 6), nI (pk sd 2 6), nI cold, nI fur, nI coughs, nI sc, lN (pk S 64 6)) := by
      unfold f_X6_readItem f_X6_readItem_48 f_X6_readOnce f_X6_readOnce_77
      rw [if_neg (show ¬ nI 2 = 0 by decide), if_neg (show ¬ nI 2 = 1 by decide), if_pos (show nI 2 = 2 from rfl), bnd_mk, if_pos t1, hmo, ob1_mk, s_num6 h hT, ob5_mk, if_pos (i00 ok1), ob9_mk, zbg_01 (Or.inl rfl)]
    have hr : f_X8_readsItem (nI L) yt (nI e) (nI T) (nI p) V (-1) (nI n) (nI sc) yC yF yG yw yq ys (nI 2) = some (nI e, nI T, nI p, V, nI p, nI n, nI sc, 0, yF, yG, yw, yq, ys) := by
      unfold f_X8_readsItem
      rw [if_neg (show ¬ nI 2 = 0 by decide), if_neg (show ¬ nI 2 = 1 by decide), if_pos (show nI 2 = 2 from rfl), e4, ob6_mk]
    exact Or.inl ⟨p, _, _, _, _, _, _, _, _, _, _, _, _, by omega, hc, _, _, _, _, _, _, _, _, _, _, _, _, hr, fun j hj => ⟨rfl, rfl, rfl⟩⟩
theorem s_itemO3 (h : TX L t xb yt) {q p e T : Nat} {V : Int32} (hT : TokR L t q p e) (hV : TV L t p e T V) {n : Nat} {w0 sd S : Nat → Nat} {cold fur coughs sc b2 b3 b4 : Nat} {yC yF yG : Int32} {yw yq ys : Nat → Int32} (hD : DR n w0 sd S cold fur coughs sc b2 b3 b4 yC yF yG yw yq ys) (tok num pl : Int32) (hb0 : b3 = 0) : IFl (f_X6_readItem (nI L) xb tok num pl (nI q) (told b2 b3 b4) (nI n) (nI (pk w0 32 6)) (nI (pk sd 2 6)) (nI cold) (nI fur) (nI coughs) (nI sc) (lN (pk S 64 6)) (nI 3)) (f_X8_readsItem (nI L) yt (nI e) (nI T) (nI p) V (-1) (nI n) (nI sc) yC yF yG yw yq ys (nI 3)) yw yq ys ∨ IG L t q (f_X6_readItem (nI L) xb tok num pl (nI q) (told b2 b3 b4) (nI n) (nI (pk w0 32 6)) (nI (pk sd 2 6)) (nI cold) (nI fur) (nI coughs) (nI sc) (lN (pk S 64 6)) (nI 3)) (f_X8_readsItem (nI L) yt (nI e) (nI T) (nI p) V (-1) (nI n) (nI sc) yC yF yG yw yq ys (nI 3)) yw yq ys := by
  obtain ⟨hWf, ⟨hb2, hb3, hb4⟩, ⟨hyC, hC0⟩, ⟨hyF, hF0⟩, ⟨hyG, hG0⟩, hrow⟩ := hD
  obtain ⟨hn6, hw0, hwz, hs1, hsz, hS, hSz, hc5, hf5, hg9, hsc⟩ := hWf
  have hL := h.1
  obtain ⟨hqp, hpL, _, _, _, he, _⟩ := id hT
  have hvl := vl_le (L := L) (t := t) p e
  have tl := told_all b2 (by omega) b3 (by omega) b4 (by omega)
  have t1 := tl.2.1.mpr hb0
  have t2 := tl.2.2.2.2.1 hb0
  have hmo : f_X6_mostOf (nI 3) = some 5 := by decide
  by_cases ok1 : (0 : Int32) ≤ nI (vl L t p e) ∧ nI (vl L t p e) ≤ 5
  · obtain ⟨p2, e2, T2, V2, hT2, hV2, e4⟩ := m_num1 h he hV (show (5 : Int32) < 100 by decide) ok1
    have hle : vl L t p e ≤ 5 := (nI_leI (by omega) (b := 5) (by omega)).mp ok1.2
    have hc : f_X6_readItem (nI L) xb tok num pl (nI q) (told b2 b3 b4) (nI n) (nI (pk w0 32 6)) (nI (pk sd 2 6)) (nI cold) (nI fur) (nI coughs) (nI sc) (lN (pk S 64 6)) (nI 3) = some (if kn L t p2 = 3 then 1 else 0, nI (kn L t p2), nI (vl L t p e), nI p2, nI e2, told b2 1 b4, nI n, nI (pk w0 32 6), nI (pk sd 2 6), nI cold, nI (vl L t p e), nI coughs, nI sc, lN (pk S 64 6)) := by
      unfold f_X6_readItem f_X6_readItem_48 f_X6_readOnce f_X6_readOnce_77
      rw [if_neg (show ¬ nI 3 = 0 by decide), if_neg (show ¬ nI 3 = 1 by decide), if_neg (show ¬ nI 3 = 2 by decide), if_pos (show nI 3 = 3 from rfl), bnd_mk, if_pos t1, hmo, ob1_mk, s_num6 h hT, ob5_mk, if_neg (i10 ok1), bnd_mk, t2, if_neg (show ¬ nI 3 = 2 by decide), if_pos (show nI 3 = 3 from rfl), s_semi6 h hT2, ob4_mk, zbg_i, ob9_mk, zbg_i]
    have hr : f_X8_readsItem (nI L) yt (nI e) (nI T) (nI p) V (-1) (nI n) (nI sc) yC yF yG yw yq ys (nI 3) = some (nI e2, nI T2, nI p2, V2, -1, nI n, nI sc, yC, (nI (vl L t p e)), yG, yw, yq, ys) := by
      unfold f_X8_readsItem
      rw [if_neg (show ¬ nI 3 = 0 by decide), if_neg (show ¬ nI 3 = 1 by decide), if_neg (show ¬ nI 3 = 2 by decide), if_pos (show nI 3 = 3 from rfl), e4, ob6_mk]
    exact Or.inr ⟨e, p2, e2, T2, V2, _, n, w0, sd, S, cold, (vl L t p e), coughs, sc, b2, 1, b4, yC, (nI (vl L t p e)), yG, yw, yq, ys, by have := hT.2.2.2.2.1; omega, hT2, hV2, hc, hr, ⟨⟨hn6, hw0, hwz, hs1, hsz, hS, hSz, hc5, hle, hg9, hsc⟩, ⟨hb2, by omega, hb4⟩, ⟨hyC, hC0⟩, ⟨(if_neg (by omega)).symm, fun z => by omega⟩, ⟨hyG, hG0⟩, hrow⟩, fun j hj => ⟨rfl, rfl, rfl⟩⟩
  · have e4 := m_num0 (yt := yt) hV ok1
    have hc : f_X6_readItem (nI L) xb tok num pl (nI q) (told b2 b3 b4) (nI n) (nI (pk w0 32 6)) (nI (pk sd 2 6)) (nI cold) (nI fur) (nI coughs) (nI sc) (lN (pk S 64 6)) (nI 3) = some (0, nI (kn L t p), nI (vl L t p e), nI p, nI e, told b2 b3 b4, nI n, nI (pk w0 32 6), nI (pk sd 2 6), nI cold, nI fur, nI coughs, nI sc, lN (pk S 64 6)) := by
      unfold f_X6_readItem f_X6_readItem_48 f_X6_readOnce f_X6_readOnce_77
      rw [if_neg (show ¬ nI 3 = 0 by decide), if_neg (show ¬ nI 3 = 1 by decide), if_neg (show ¬ nI 3 = 2 by decide), if_pos (show nI 3 = 3 from rfl), bnd_mk, if_pos t1, hmo, ob1_mk, s_num6 h hT, ob5_mk, if_pos (i00 ok1), ob9_mk, zbg_01 (Or.inl rfl)]
    have hr : f_X8_readsItem (nI L) yt (nI e) (nI T) (nI p) V (-1) (nI n) (nI sc) yC yF yG yw yq ys (nI 3) = some (nI e, nI T, nI p, V, nI p, nI n, nI sc, yC, 0, yG, yw, yq, ys) := by
      unfold f_X8_readsItem
      rw [if_neg (show ¬ nI 3 = 0 by decide), if_neg (show ¬ nI 3 = 1 by decide), if_neg (show ¬ nI 3 = 2 by decide), if_pos (show nI 3 = 3 from rfl), e4, ob6_mk]
    exact Or.inl ⟨p, _, _, _, _, _, _, _, _, _, _, _, _, by omega, hc, _, _, _, _, _, _, _, _, _, _, _, _, hr, fun j hj => ⟨rfl, rfl, rfl⟩⟩
theorem s_itemO4 (h : TX L t xb yt) {q p e T : Nat} {V : Int32} (hT : TokR L t q p e) (hV : TV L t p e T V) {n : Nat} {w0 sd S : Nat → Nat} {cold fur coughs sc b2 b3 b4 : Nat} {yC yF yG : Int32} {yw yq ys : Nat → Int32} (hD : DR n w0 sd S cold fur coughs sc b2 b3 b4 yC yF yG yw yq ys) (tok num pl : Int32) (hb0 : b4 = 0) : IFl (f_X6_readItem (nI L) xb tok num pl (nI q) (told b2 b3 b4) (nI n) (nI (pk w0 32 6)) (nI (pk sd 2 6)) (nI cold) (nI fur) (nI coughs) (nI sc) (lN (pk S 64 6)) (nI 4)) (f_X8_readsItem (nI L) yt (nI e) (nI T) (nI p) V (-1) (nI n) (nI sc) yC yF yG yw yq ys (nI 4)) yw yq ys ∨ IG L t q (f_X6_readItem (nI L) xb tok num pl (nI q) (told b2 b3 b4) (nI n) (nI (pk w0 32 6)) (nI (pk sd 2 6)) (nI cold) (nI fur) (nI coughs) (nI sc) (lN (pk S 64 6)) (nI 4)) (f_X8_readsItem (nI L) yt (nI e) (nI T) (nI p) V (-1) (nI n) (nI sc) yC yF yG yw yq ys (nI 4)) yw yq ys := by
  obtain ⟨hWf, ⟨hb2, hb3, hb4⟩, ⟨hyC, hC0⟩, ⟨hyF, hF0⟩, ⟨hyG, hG0⟩, hrow⟩ := hD
  obtain ⟨hn6, hw0, hwz, hs1, hsz, hS, hSz, hc5, hf5, hg9, hsc⟩ := hWf
  have hL := h.1
  obtain ⟨hqp, hpL, _, _, _, he, _⟩ := id hT
  have hvl := vl_le (L := L) (t := t) p e
  have tl := told_all b2 (by omega) b3 (by omega) b4 (by omega)
  have t1 := tl.2.2.1.mpr hb0
  have t2 := tl.2.2.2.2.2 hb0
  have hmo : f_X6_mostOf (nI 4) = some 9 := by decide
  by_cases ok1 : (0 : Int32) ≤ nI (vl L t p e) ∧ nI (vl L t p e) ≤ 9
  · obtain ⟨p2, e2, T2, V2, hT2, hV2, e4⟩ := m_num1 h he hV (show (9 : Int32) < 100 by decide) ok1
    have hle : vl L t p e ≤ 9 := (nI_leI (by omega) (b := 9) (by omega)).mp ok1.2
    have hc : f_X6_readItem (nI L) xb tok num pl (nI q) (told b2 b3 b4) (nI n) (nI (pk w0 32 6)) (nI (pk sd 2 6)) (nI cold) (nI fur) (nI coughs) (nI sc) (lN (pk S 64 6)) (nI 4) = some (if kn L t p2 = 3 then 1 else 0, nI (kn L t p2), nI (vl L t p e), nI p2, nI e2, told b2 b3 1, nI n, nI (pk w0 32 6), nI (pk sd 2 6), nI cold, nI fur, nI (vl L t p e), nI sc, lN (pk S 64 6)) := by
      unfold f_X6_readItem f_X6_readItem_48 f_X6_readOnce f_X6_readOnce_77
      rw [if_neg (show ¬ nI 4 = 0 by decide), if_neg (show ¬ nI 4 = 1 by decide), if_neg (show ¬ nI 4 = 2 by decide), if_neg (show ¬ nI 4 = 3 by decide), if_pos (show nI 4 = 4 from rfl), bnd_mk, if_pos t1, hmo, ob1_mk, s_num6 h hT, ob5_mk, if_neg (i10 ok1), bnd_mk, t2, if_neg (show ¬ nI 4 = 2 by decide), if_neg (show ¬ nI 4 = 3 by decide), s_semi6 h hT2, ob4_mk, zbg_i, ob9_mk, zbg_i]
    have hr : f_X8_readsItem (nI L) yt (nI e) (nI T) (nI p) V (-1) (nI n) (nI sc) yC yF yG yw yq ys (nI 4) = some (nI e2, nI T2, nI p2, V2, -1, nI n, nI sc, yC, yF, (nI (vl L t p e)), yw, yq, ys) := by
      unfold f_X8_readsItem
      rw [if_neg (show ¬ nI 4 = 0 by decide), if_neg (show ¬ nI 4 = 1 by decide), if_neg (show ¬ nI 4 = 2 by decide), if_neg (show ¬ nI 4 = 3 by decide), e4, ob6_mk]
    exact Or.inr ⟨e, p2, e2, T2, V2, _, n, w0, sd, S, cold, fur, (vl L t p e), sc, b2, b3, 1, yC, yF, (nI (vl L t p e)), yw, yq, ys, by have := hT.2.2.2.2.1; omega, hT2, hV2, hc, hr, ⟨⟨hn6, hw0, hwz, hs1, hsz, hS, hSz, hc5, hf5, hle, hsc⟩, ⟨hb2, hb3, by omega⟩, ⟨hyC, hC0⟩, ⟨hyF, hF0⟩, ⟨(if_neg (by omega)).symm, fun z => by omega⟩, hrow⟩, fun j hj => ⟨rfl, rfl, rfl⟩⟩
  · have e4 := m_num0 (yt := yt) hV ok1
    have hc : f_X6_readItem (nI L) xb tok num pl (nI q) (told b2 b3 b4) (nI n) (nI (pk w0 32 6)) (nI (pk sd 2 6)) (nI cold) (nI fur) (nI coughs) (nI sc) (lN (pk S 64 6)) (nI 4) = some (0, nI (kn L t p), nI (vl L t p e), nI p, nI e, told b2 b3 b4, nI n, nI (pk w0 32 6), nI (pk sd 2 6), nI cold, nI fur, nI coughs, nI sc, lN (pk S 64 6)) := by
      unfold f_X6_readItem f_X6_readItem_48 f_X6_readOnce f_X6_readOnce_77
      rw [if_neg (show ¬ nI 4 = 0 by decide), if_neg (show ¬ nI 4 = 1 by decide), if_neg (show ¬ nI 4 = 2 by decide), if_neg (show ¬ nI 4 = 3 by decide), if_pos (show nI 4 = 4 from rfl), bnd_mk, if_pos t1, hmo, ob1_mk, s_num6 h hT, ob5_mk, if_pos (i00 ok1), ob9_mk, zbg_01 (Or.inl rfl)]
    have hr : f_X8_readsItem (nI L) yt (nI e) (nI T) (nI p) V (-1) (nI n) (nI sc) yC yF yG yw yq ys (nI 4) = some (nI e, nI T, nI p, V, nI p, nI n, nI sc, yC, yF, 0, yw, yq, ys) := by
      unfold f_X8_readsItem
      rw [if_neg (show ¬ nI 4 = 0 by decide), if_neg (show ¬ nI 4 = 1 by decide), if_neg (show ¬ nI 4 = 2 by decide), if_neg (show ¬ nI 4 = 3 by decide), e4, ob6_mk]
    exact Or.inl ⟨p, _, _, _, _, _, _, _, _, _, _, _, _, by omega, hc, _, _, _, _, _, _, _, _, _, _, _, _, hr, fun j hj => ⟨rfl, rfl, rfl⟩⟩
end
