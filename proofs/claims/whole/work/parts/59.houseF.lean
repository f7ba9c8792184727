/-! the items, one behind the other, read by both -/
def mayB (k n sc b2 b3 b4 : Nat) : Prop := (k = 0 ∧ n < 6) ∨ (k = 1 ∧ sc < 8) ∨ (k = 2 ∧ b2 = 0) ∨ (k = 3 ∧ b3 = 0) ∨ (k = 4 ∧ b4 = 0)
theorem nine {b c : Nat} (hc : c < 100) : (if b = 0 then (-9 : Int32) else nI c) = -9 ↔ b = 0 := by
  by_cases h : b = 0
  · rw [if_pos h]; exact ⟨fun _ => h, fun _ => rfl⟩
  · rw [if_neg h]; exact ⟨fun z => absurd z (nI_ne9 (by omega)), fun z => absurd z h⟩
theorem s_may1 {k n sc b2 b3 b4 : Nat} {w0 sd S : Nat → Nat} {cold fur coughs : Nat} {yC yF yG : Int32} {yw yq ys : Nat → Int32} (hD : DR n w0 sd S cold fur coughs sc b2 b3 b4 yC yF yG yw yq ys) (hm : mayB k n sc b2 b3 b4) : f_X8_mayBegin (nI k) (nI n) (nI sc) yC yF yG = some 1 := by
  obtain ⟨⟨hn6, hw0, hwz, hs1, hsz, hS, hSz, hc5, hf5, hg9, hsc⟩, _, ⟨rfl, _⟩, ⟨rfl, _⟩, ⟨rfl, _⟩, _⟩ := hD
  unfold f_X8_mayBegin
  rcases hm with ⟨rfl, g⟩ | ⟨rfl, g⟩ | ⟨rfl, g⟩ | ⟨rfl, g⟩ | ⟨rfl, g⟩
  · rw [if_neg (show ¬ (2 : Int32) ≤ nI 0 by decide), if_pos (show nI 0 = 0 from rfl), if_neg (show ¬ (6 : Int32) ≤ nI n from nI_ge (b := 6) g (by omega))]
  · rw [if_neg (show ¬ (2 : Int32) ≤ nI 1 by decide), if_neg (show ¬ nI 1 = 0 by decide), if_neg (show ¬ (8 : Int32) ≤ nI sc from nI_ge (b := 8) g (by omega))]
  · rw [if_pos (show (2 : Int32) ≤ nI 2 by decide), if_pos (show nI 2 = 2 from rfl), if_pos ((nine (by omega)).mpr g)]
  · rw [if_pos (show (2 : Int32) ≤ nI 3 by decide), if_neg (show ¬ nI 3 = 2 by decide), if_pos (show nI 3 = 3 from rfl), if_pos ((nine (by omega)).mpr g)]
  · rw [if_pos (show (2 : Int32) ≤ nI 4 by decide), if_neg (show ¬ nI 4 = 2 by decide), if_neg (show ¬ nI 4 = 3 by decide), if_pos ((nine (by omega)).mpr g)]
theorem s_may0 {k n sc b2 b3 b4 : Nat} {w0 sd S : Nat → Nat} {cold fur coughs : Nat} {yC yF yG : Int32} {yw yq ys : Nat → Int32} (hD : DR n w0 sd S cold fur coughs sc b2 b3 b4 yC yF yG yw yq ys) (hk : k < 5) (hm : ¬ mayB k n sc b2 b3 b4) : f_X8_mayBegin (nI k) (nI n) (nI sc) yC yF yG = some 0 := by
  obtain ⟨⟨hn6, hw0, hwz, hs1, hsz, hS, hSz, hc5, hf5, hg9, hsc⟩, _, ⟨rfl, _⟩, ⟨rfl, _⟩, ⟨rfl, _⟩, _⟩ := hD
  unfold f_X8_mayBegin
  rcases (show k = 0 ∨ k = 1 ∨ k = 2 ∨ k = 3 ∨ k = 4 by omega) with rfl | rfl | rfl | rfl | rfl
  · rw [if_neg (show ¬ (2 : Int32) ≤ nI 0 by decide), if_pos (show nI 0 = 0 from rfl), if_pos (show (6 : Int32) ≤ nI n from nI_le (a := 6) (Nat.le_of_not_lt (fun g => hm (Or.inl ⟨rfl, g⟩))) (by omega))]
  · rw [if_neg (show ¬ (2 : Int32) ≤ nI 1 by decide), if_neg (show ¬ nI 1 = 0 by decide), if_pos (show (8 : Int32) ≤ nI sc from nI_le (a := 8) (Nat.le_of_not_lt (fun g => hm (Or.inr (Or.inl ⟨rfl, g⟩)))) (by omega))]
  · rw [if_pos (show (2 : Int32) ≤ nI 2 by decide), if_pos (show nI 2 = 2 from rfl), if_neg (fun z => hm (Or.inr (Or.inr (Or.inl ⟨rfl, (nine (by omega)).mp z⟩))))]
  · rw [if_pos (show (2 : Int32) ≤ nI 3 by decide), if_neg (show ¬ nI 3 = 2 by decide), if_pos (show nI 3 = 3 from rfl), if_neg (fun z => hm (Or.inr (Or.inr (Or.inr (Or.inl ⟨rfl, (nine (by omega)).mp z⟩)))))]
  · rw [if_pos (show (2 : Int32) ≤ nI 4 by decide), if_neg (show ¬ nI 4 = 2 by decide), if_neg (show ¬ nI 4 = 3 by decide), if_neg (fun z => hm (Or.inr (Or.inr (Or.inr (Or.inr ⟨rfl, (nine (by omega)).mp z⟩)))))]
theorem c_may0 {k n sc b2 b3 b4 : Nat} (hn6 : n ≤ 6) (hsc : sc ≤ 8) (hb2 : b2 ≤ 1) (hb3 : b3 ≤ 1) (hb4 : b4 ≤ 1) (hk : k ≤ 5) (hm : ¬ mayB k n sc b2 b3 b4) (l : Int32) (xb : Nat → Int32) (tok num pl nx xw xf xc xu xg : Int32) (xp : Int64) : f_X6_readItem l xb tok num pl nx (told b2 b3 b4) (nI n) xw xf xc xu xg (nI sc) xp (nI k) = some (0, tok, num, pl, nx, told b2 b3 b4, nI n, xw, xf, xc, xu, xg, nI sc, xp) := by
  have tl := told_all b2 (by omega) b3 (by omega) b4 (by omega)
  unfold f_X6_readItem
  rcases (show k = 0 ∨ k = 1 ∨ k = 2 ∨ k = 3 ∨ k = 4 ∨ k = 5 by omega) with rfl | rfl | rfl | rfl | rfl | rfl
  · unfold f_X6_readMember
    rw [if_pos (show nI 0 = 0 from rfl), if_pos (show (6 : Int32) ≤ nI n from nI_le (a := 6) (Nat.le_of_not_lt (fun g => hm (Or.inl ⟨rfl, g⟩))) (by omega)), ob8_mk, zbg_01 (Or.inl rfl)]
  · unfold f_X6_readSeconds
    rw [if_neg (show ¬ nI 1 = 0 by decide), if_pos (show nI 1 = 1 from rfl), if_pos (show (8 : Int32) ≤ nI sc from nI_le (a := 8) (Nat.le_of_not_lt (fun g => hm (Or.inr (Or.inl ⟨rfl, g⟩)))) (by omega)), ob7_mk, zbg_01 (Or.inl rfl)]
  · unfold f_X6_readItem_48 f_X6_readOnce
    rw [if_neg (show ¬ nI 2 = 0 by decide), if_neg (show ¬ nI 2 = 1 by decide), if_pos (show nI 2 = 2 from rfl), bnd_mk, if_neg (fun z => hm (Or.inr (Or.inr (Or.inl ⟨rfl, tl.1.mp z⟩)))), ob9_mk, zbg_01 (Or.inl rfl)]
  · unfold f_X6_readItem_48 f_X6_readOnce
    rw [if_neg (show ¬ nI 3 = 0 by decide), if_neg (show ¬ nI 3 = 1 by decide), if_neg (show ¬ nI 3 = 2 by decide), if_pos (show nI 3 = 3 from rfl), bnd_mk, if_neg (fun z => hm (Or.inr (Or.inr (Or.inr (Or.inl ⟨rfl, tl.2.1.mp z⟩))))), ob9_mk, zbg_01 (Or.inl rfl)]
  · unfold f_X6_readItem_48 f_X6_readOnce
    rw [if_neg (show ¬ nI 4 = 0 by decide), if_neg (show ¬ nI 4 = 1 by decide), if_neg (show ¬ nI 4 = 2 by decide), if_neg (show ¬ nI 4 = 3 by decide), if_pos (show nI 4 = 4 from rfl), bnd_mk, if_neg (fun z => hm (Or.inr (Or.inr (Or.inr (Or.inr ⟨rfl, tl.2.2.1.mp z⟩))))), ob9_mk, zbg_01 (Or.inl rfl)]
  · rw [if_neg (show ¬ nI 5 = 0 by decide), if_neg (show ¬ nI 5 = 1 by decide), if_neg (show ¬ nI 5 = 2 by decide), if_neg (show ¬ nI 5 = 3 by decide), if_neg (show ¬ nI 5 = 4 by decide)]
section
variable {L : Nat} {t : Nat → Nat} {xb yt : Nat → Int32}
theorem s_item (h : TX L t xb yt) {q p e T : Nat} {V : Int32} (hT : TokR L t q p e) (hV : TV L t p e T V) {n : Nat} {w0 sd S : Nat → Nat} {cold fur coughs sc b2 b3 b4 : Nat} {yC yF yG : Int32} {yw yq ys : Nat → Int32} (hD : DR n w0 sd S cold fur coughs sc b2 b3 b4 yC yF yG yw yq ys) (tok num pl : Int32) {k : Nat} (hm : mayB k n sc b2 b3 b4) : IFl (f_X6_readItem (nI L) xb tok num pl (nI q) (told b2 b3 b4) (nI n) (nI (pk w0 32 6)) (nI (pk sd 2 6)) (nI cold) (nI fur) (nI coughs) (nI sc) (lN (pk S 64 6)) (nI k)) (f_X8_readsItem (nI L) yt (nI e) (nI T) (nI p) V (-1) (nI n) (nI sc) yC yF yG yw yq ys (nI k)) yw yq ys ∨ IG L t q (f_X6_readItem (nI L) xb tok num pl (nI q) (told b2 b3 b4) (nI n) (nI (pk w0 32 6)) (nI (pk sd 2 6)) (nI cold) (nI fur) (nI coughs) (nI sc) (lN (pk S 64 6)) (nI k)) (f_X8_readsItem (nI L) yt (nI e) (nI T) (nI p) V (-1) (nI n) (nI sc) yC yF yG yw yq ys (nI k)) yw yq ys := by
  rcases hm with ⟨rfl, g⟩ | ⟨rfl, g⟩ | ⟨rfl, g⟩ | ⟨rfl, g⟩ | ⟨rfl, g⟩
  · exact s_itemM h hT hV hD tok num pl g
  · exact s_itemS h hT hV hD tok num pl g
  · exact s_itemO2 h hT hV hD tok num pl g
  · exact s_itemO3 h hT hV hD tok num pl g
  · exact s_itemO4 h hT hV hD tok num pl g
end
